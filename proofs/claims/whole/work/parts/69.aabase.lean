section HLB
/-! ## the script -/
def sv (xs : Nat → Int32) (j : Nat) : Int := (xs j).toInt
theorem sv_n (xs : Nat → Int32) (j : Nat) : iN (sv xs j) = xs j := Int32.ofInt_toInt _
theorem sv_b (xs : Nat → Int32) (j : Nat) : -2147483648 ≤ sv xs j ∧ sv xs j < 2147483648 := by
  have h1 := Int32.le_toInt (xs j)
  have h2 := Int32.toInt_lt (xs j)
  unfold sv
  omega
def SCR (X : CX) (q0 L : Nat) (xs : Nat → Int32) : Prop := va_X q0 L xs X.s X.s.heap ∧ q0 < X.s.heap.size ∧ ¬ X.A q0 ∧ L ≤ 3072
variable {X : CX} {cc : ByteArray} {nL : Nat} {own : String} {Ts : List Cond} {rm : Room} {k n : Nat} {ws : va_W} {pc : Nat} {Ls : List (Nat × Value)} {st : List Value}
theorem x_sld (C : Cx X cc nL own Ts rm) {q0 L : Nat} {xs : Nat → Int32} (hX : SCR X q0 L xs) {i : Int} (j : Nat) (hi : i = (j : Int)) (hj : j < L) (d : decode cc pc = .ok (.iaload, 1)) (kk : Wx X k n ws (pc + 1) Ls (.int (iN (sv xs j)) :: st)) : Wx X k n ws pc Ls (.int (iN i) :: .ref q0 :: st) := by
  intro H locs ls hP hD hS hl
  subst hi
  have h3 : L ≤ 3072 := hX.2.2.2
  refine va_sld C.hx C.hb hX.1 hX.2.1 hX.2.2.1 hS (iN_vin (n := L) ⟨by omega, by omega⟩ (by simp only [Nat.ble_eq]; omega)) d ?_
  rw [iN_clamp ⟨by omega, by omega⟩, Int.toNat_natCast, show xs j = iN (sv xs j) from (sv_n xs j).symm]
  exact kk H locs ls hP hD hS hl
theorem x_slen (C : Cx X cc nL own Ts rm) {q0 L : Nat} {xs : Nat → Int32} (hX : SCR X q0 L xs) (d : decode cc pc = .ok (.arraylength, 1)) (kk : Wx X k n ws (pc + 1) Ls (.int (iN (L : Int)) :: st)) : Wx X k n ws pc Ls (.ref q0 :: st) := by
  intro H locs ls hP hD hS hl
  refine va_slen C.hx C.hb hX.1 hX.2.1 hX.2.2.1 hS d ?_
  have e : iN (L : Int) = Int32.ofNat L := iN_nat L
  rw [← e]
  exact kk H locs ls hP hD hS hl
theorem x_arg (C : Cx X cc nL own Ts rm) {q0 L : Nat} {xs : Nat → Int32} (hX : SCR X q0 L xs) {t : Nat} (p4 p0 : Nat) (h4 : Ls[p4]? = some (4, .int (iN ((t : Nat) : Int)))) (h0 : Ls[p0]? = some (0, .ref q0)) {c0 : Int} (j : Nat) (hc : c0 = (j : Int)) (hj : t + j < L) (d0 : decode cc pc = .ok (.aload_n 0, 1)) (d1 : decode cc (pc + 1) = .ok (.iload 4, 2)) (d2 : decode cc (pc + 3) = .ok (.iconst c0, 1)) (d3 : decode cc (pc + 4) = .ok (.iadd, 1)) (d4 : decode cc (pc + 5) = .ok (.iaload, 1)) (kk : Wx X k n ws (pc + 6) Ls (.int (iN (sv xs (t + j))) :: st)) : Wx X k n ws pc Ls st := by
  refine x_aload_n C p0 (i := 0) rfl h0 d0 ?_
  refine x_iload C p4 h4 d1 ?_
  refine x_iconst (v := 0) C d2 ?_
  refine x_iadd C d3 ?_
  exact x_sld C hX (t + j) (by omega) hj d4 kk
theorem x_eqS (C : Cx X cc nL own Ts rm) {a b off : Int} (hab : a = b) (tgt : Nat) (ht : (pc : Int) + off = (tgt : Int)) (d : decode cc pc = .ok (.if_icmp .eq off, 3)) (kk : Wx X k n ws tgt Ls st) : Wx X k n ws pc Ls (.int (iN b) :: .int (iN a) :: st) :=
  fun H locs ls hP hD hS hl => lv_icmp_eq C.hx C.hb d ht (fun _ => kk H locs ls hP hD hS hl) (fun q => absurd (by rw [hab]) q)
theorem lg_cmp_same (x : Int64) : lg_cmp x x = 0 := by
  unfold lg_cmp
  split
  · rename_i h
    have h : x < x := h
    rw [Int64.lt_iff_toInt_lt] at h
    exact absurd h (Int.lt_irrefl _)
  · rw [if_pos rfl]
theorem x_lcmpS (C : Cx X cc nL own Ts rm) {a b off : Int} (hab : a = b) (tgt : Nat) (ht : ((pc + 1 : Nat) : Int) + off = (tgt : Int)) (d : decode cc pc = .ok (.lcmp, 1)) (d2 : decode cc (pc + 1) = .ok (.ifCond .eq off, 3)) (kk : Wx X k n ws tgt Ls st) : Wx X k n ws pc Ls (.long (jN b) :: .long (jN a) :: st) := by
  intro H locs ls hP hD hS hl
  refine W.lcmp C.hx C.hb d ?_
  rw [hab, lg_cmp_same]
  exact lv_if_eq C.hx C.hb d2 ht (fun _ => kk H locs ls hP hD hS hl) (fun q => absurd rfl q)
theorem roomOk_k {rm rmY : Room} {maxL k n mc ms : Nat} (h : ((rmY.frames + 1).ble rm.frames && ((8 + (maxL + 11) + rmY.locals).ble rm.locals && (rmY.cells == mc && rmY.slots == ms))) = true) (hk : k + mc ≤ rm.cells) (hn : n + ms ≤ rm.slots) : roomOk rm rmY maxL k n mc ms = true := by
  simp only [Bool.and_eq_true, Nat.ble_eq] at h
  unfold roomOk
  simp only [Bool.and_eq_true, Nat.ble_eq]
  exact ⟨⟨⟨⟨⟨h.1, h.2.1⟩, hk⟩, hn⟩, h.2.2.1⟩, h.2.2.2⟩
theorem wl_eq (A B D : va_W) : [] ++ A ++ (B ++ D) = A ++ B ++ D := by rw [List.nil_append, List.append_assoc]
/-! ## what holds between the calls -/
def NI (N : Ct) : Prop := WFc N ∧ (0 ≤ Ct.dy N ∧ Ct.dy N ≤ 999) ∧ Co N
theorem NI.wa {N : Ct} (h : NI N) (x : Int → Int) : NI (Ct.set_wa N x) := ⟨h.1, h.2.1, h.2.2.wa x⟩
theorem NI.hts {N : Ct} (h : NI N) {c v : Int} (hv : 0 ≤ v ∧ v ≤ 20) : NI (Ct.set_h N (upz (Ct.h N) c v)) := ⟨h.1.hts (bd_upz h.1.h hv), h.2.1, h.2.2.h _⟩
theorem NI.po {N : Ct} (h : NI N) {i c : Int} (hc : 0 ≤ c ∧ c ≤ 14) : NI (Ct.set_po N (upz (Ct.po N) i c)) := ⟨h.1.posn (bd_upz h.1.po hc), h.2.1, h.2.2.po _⟩
theorem NI.wy {N : Ct} (h : NI N) {i : Int} (t : Int) : NI (Ct.set_wy N (upz (Ct.wy N) i (wyz t))) := ⟨h.1.way (bd_upz h.1.wy (by unfold wyz; split <;> (try split) <;> omega)), h.2.1, h.2.2.wy _⟩
theorem ldays_dy (N : Ct) : ∀ k : Nat, Ct.dy (Ct.days N k) = Ct.dy N + (k : Int)
  | 0 => by simp [Ct.days]
  | k + 1 => by
    rw [(Ct.days_s N k).2.2, ldays_dy N k]
    omega
theorem NI.days {N : Ct} (h : NI N) {m : Int} (hm : 1 ≤ m) (hd : Ct.dy N + m ≤ 999) : NI (Ct.days N m.toNat) := ⟨Ct.days_wf h.1 _, by rw [ldays_dy]; have := h.2.1; omega, h.2.2.days h.1.n.1 _⟩
theorem NI.come {N : Ct} (h : NI N) {k f g c : Int} (hk : 0 ≤ k ∧ k ≤ 7) (hf : 0 ≤ f ∧ f ≤ 9) (hg : 0 ≤ g ∧ g ≤ 120) (hc : 0 ≤ c ∧ c ≤ 14) (hn : Ct.n N < 6) : NI (Ct.come N k f g c) := ⟨come_wf h.1 hk hf hg hc hn, h.2.1, h.2.2.come _ _ _ _⟩
theorem NI.run {N : Ct} (h : NI N) (u : Int → Int) (sz : Int) : NI (runS u sz 100 0 0 N).2 := ⟨(run_wf u sz 100 0 0 N h.1 h.2.1).1, (run_wf u sz 100 0 0 N h.1 h.2.1).2, h.2.2.run h.1.n.1 u sz 100 0 0⟩
/-- the shelves -/
def SHb (mhw mkk mkf mrs mrm mrw : Int → Int) : Prop := bd mhw 0 2 ∧ bd mkk 0 7 ∧ bd mkf 0 9 ∧ bd mrs 0 2 ∧ bd mrm 0 100 ∧ bd mrw (-2147483648) 2147483647
def SHd (S : Sh) (mhw mkk mkf mrs mrm mrw : Int → Int) (d : Int) : Prop := (mhw d = Sh.hd S ∧ mrs d = Sh.so S ∧ mrm d = Sh.sz S) ∧ (Sh.hd S = 1 → mkk d = Sh.kd S ∧ mkf d = Sh.fg S) ∧ ∀ t : Int, 0 ≤ t → t < 100 → mrw (100 * d + t) = Sh.va S t
def SHr (F : Nat → Sh) (mhw mkk mkf mrs mrm mrw : Int → Int) : Prop := (∀ t : Nat, t < 8 → WFs (F t)) ∧ SHb mhw mkk mkf mrs mrm mrw ∧ ∀ d : Int, 0 ≤ d → d ≤ 7 → SHd (F d.toNat) mhw mkk mkf mrs mrm mrw d
theorem SHr.up {F : Nat → Sh} {mhw mkk mkf mrs mrm mrw mhw' mkk' mkf' mrs' mrm' mrw' : Int → Int} (h : SHr F mhw mkk mkf mrs mrm mrw) {d : Int} (hd : 0 ≤ d ∧ d ≤ 7) {Z : Sh} (hZ : WFs Z) (hb : SHb mhw' mkk' mkf' mrs' mrm' mrw') (h1 : SHd Z mhw' mkk' mkf' mrs' mrm' mrw' d) (h2 : ∀ e : Int, 0 ≤ e → e ≤ 7 → e ≠ d → (mhw' e = mhw e ∧ mrs' e = mrs e ∧ mrm' e = mrm e) ∧ (mkk' e = mkk e ∧ mkf' e = mkf e) ∧ ∀ t : Int, 0 ≤ t → t < 100 → mrw' (100 * e + t) = mrw (100 * e + t)) : SHr (upF F d.toNat Z) mhw' mkk' mkf' mrs' mrm' mrw' := by
  refine ⟨fun t ht => ?_, hb, fun e h0 h7 => ?_⟩
  · by_cases q : t = d.toNat
    · rw [q, upF_s]; exact hZ
    · rw [upF_n q]; exact h.1 t ht
  · by_cases q : e = d
    · rw [q, upF_s]; exact h1
    · rw [upF_n (show e.toNat ≠ d.toNat by omega)]
      obtain ⟨⟨a1, a2, a3⟩, ⟨a4, a5⟩, a6⟩ := h2 e h0 h7 q
      obtain ⟨⟨b1, b2, b3⟩, b4, b5⟩ := h.2.2 e h0 h7
      refine ⟨⟨a1.trans b1, a2.trans b2, a3.trans b3⟩, fun z => ?_, fun t t0 t1 => (a6 t t0 t1).trans (b5 t t0 t1)⟩
      rw [a4, a5]
      exact b4 z
theorem upz_3 {f g h : Int → Int} {d e x y z : Int} (q : e ≠ d) : upz f d x e = f e ∧ upz g d y e = g e ∧ upz h d z e = h e := ⟨upz_n q, upz_n q, upz_n q⟩
theorem SHr.keep {F : Nat → Sh} {mhw mkk mkf mrs mrm mrw : Int → Int} (h : SHr F mhw mkk mkf mrs mrm mrw) {d w k f : Int} (hd : 0 ≤ d ∧ d ≤ 7) (hw : 0 ≤ w ∧ w ≤ 1) (hk : w ≠ 1 ∨ ((0 ≤ k ∧ k ≤ 7) ∧ 0 ≤ f ∧ f ≤ 9)) : SHr (upF F d.toNat (if w = 1 then Sh.set_fg (Sh.set_kd (Sh.set_hd (F d.toNat) 1) k) f else Sh.set_hd (F d.toNat) 0)) (upz mhw d w) (upz mkk d (if w = 1 then k else 0)) (upz mkf d (if w = 1 then f else 0)) mrs mrm mrw := by
  obtain ⟨b1, b2, b3, b4, b5, b6⟩ := h.2.1
  obtain ⟨⟨c1, c2, c3⟩, c4, c5⟩ := h.2.2 d hd.1 hd.2
  have hF := h.1 d.toNat (by omega)
  by_cases q : w = 1
  · have hk : (0 ≤ k ∧ k ≤ 7) ∧ 0 ≤ f ∧ f ≤ 9 := hk.resolve_left (fun z => z q)
    rw [if_pos q, if_pos q, if_pos q]
    refine h.up hd (Z := Sh.set_fg (Sh.set_kd (Sh.set_hd (F d.toNat) 1) k) f) ⟨by show 0 ≤ (1 : Int) ∧ (1 : Int) ≤ 2; omega, hk.1, hk.2, hF.2.2.2.1, hF.2.2.2.2.1, hF.2.2.2.2.2⟩ ⟨bd_upz b1 (by omega), bd_upz b2 hk.1, bd_upz b3 hk.2, b4, b5, b6⟩ ⟨⟨by rw [upz_s, q], c2, c3⟩, fun _ => ⟨upz_s _ _ _, upz_s _ _ _⟩, c5⟩ (fun e h0 h7 ne => ⟨⟨upz_n ne, rfl, rfl⟩, ⟨upz_n ne, upz_n ne⟩, fun _ _ _ => rfl⟩)
  · have q0 : w = 0 := by omega
    rw [if_neg q, if_neg q, if_neg q]
    refine h.up hd (Z := Sh.set_hd (F d.toNat) 0) ⟨by show 0 ≤ (0 : Int) ∧ (0 : Int) ≤ 2; omega, hF.2⟩ ⟨bd_upz b1 (by omega), bd_upz b2 (by omega), bd_upz b3 (by omega), b4, b5, b6⟩ ⟨⟨by rw [upz_s, q0], c2, c3⟩, fun z => absurd (show (0 : Int) = 1 from z) (by omega), c5⟩ (fun e h0 h7 ne => ⟨⟨upz_n ne, rfl, rfl⟩, ⟨upz_n ne, upz_n ne⟩, fun _ _ _ => rfl⟩)
theorem SHr.row {F : Nat → Sh} {mhw mkk mkf mrs mrm mrw : Int → Int} (h : SHr F mhw mkk mkf mrs mrm mrw) {d so m : Int} (hd : 0 ≤ d ∧ d ≤ 7) (hs : 0 ≤ so ∧ so ≤ 2) (hm : 0 ≤ m ∧ m ≤ 100) : SHr (upF F d.toNat (Sh.set_va (Sh.set_sz (Sh.set_so (Sh.set_hd (F d.toNat) 2) so) m) (fun _ => 0))) (upz mhw d 2) mkk mkf (upz mrs d so) (upz mrm d m) (cpz (fun _ => 0) mrw 0 (100 * d) 100) := by
  obtain ⟨b1, b2, b3, b4, b5, b6⟩ := h.2.1
  have hF := h.1 d.toNat (by omega)
  refine h.up hd (Z := Sh.set_va (Sh.set_sz (Sh.set_so (Sh.set_hd (F d.toNat) 2) so) m) (fun _ => 0)) ⟨by show 0 ≤ (2 : Int) ∧ (2 : Int) ≤ 2; omega, hF.2.1, hF.2.2.1, hs, hm, fun i => by show -2147483648 ≤ (0 : Int) ∧ (0 : Int) ≤ 2147483647; omega⟩ ⟨bd_upz b1 (by omega), b2, b3, bd_upz b4 hs, bd_upz b5 hm, fun i => ?_⟩ ⟨⟨upz_s _ _ _, upz_s _ _ _, upz_s _ _ _⟩, fun z => absurd (show (2 : Int) = 1 from z) (by omega), fun t h0 h1 => ?_⟩ (fun e h0 h7 ne => ⟨⟨upz_n ne, upz_n ne, upz_n ne⟩, ⟨rfl, rfl⟩, fun t t0 t1 => ?_⟩)
  · unfold cpz
    split
    · show -2147483648 ≤ (0 : Int) ∧ (0 : Int) ≤ 2147483647
      omega
    · exact b6 i
  · unfold cpz
    rw [if_pos (by omega)]
  · unfold cpz
    rw [if_neg (by omega)]
theorem SHr.put {F : Nat → Sh} {mhw mkk mkf mrs mrm mrw : Int → Int} (h : SHr F mhw mkk mkf mrs mrm mrw) {d i v : Int} (hd : 0 ≤ d ∧ d ≤ 7) (hi : 0 ≤ i ∧ i ≤ Sh.sz (F d.toNat) - 1) (hv : -2147483648 ≤ v ∧ v < 2147483648) : SHr (upF F d.toNat (Sh.set_va (F d.toNat) (upz (Sh.va (F d.toNat)) i (nar (Sh.so (F d.toNat)) v)))) mhw mkk mkf mrs mrm (upz mrw (100 * d + i) (nar (mrs d) v)) := by
  obtain ⟨b1, b2, b3, b4, b5, b6⟩ := h.2.1
  obtain ⟨⟨c1, c2, c3⟩, c4, c5⟩ := h.2.2 d hd.1 hd.2
  have hF := h.1 d.toNat (by omega)
  have hz := hF.sz
  refine h.up hd (Z := Sh.set_va (F d.toNat) (upz (Sh.va (F d.toNat)) i (nar (Sh.so (F d.toNat)) v))) ⟨hF.1, hF.2.1, hF.2.2.1, hF.2.2.2.1, hF.2.2.2.2.1, bd_upz hF.va (nar_b (by omega))⟩ ⟨b1, b2, b3, b4, b5, bd_upz b6 (nar_b (by omega))⟩ ⟨⟨c1, c2, c3⟩, c4, fun t h0 h1 => ?_⟩ (fun e h0 h7 ne => ⟨⟨rfl, rfl, rfl⟩, ⟨rfl, rfl⟩, fun t t0 t1 => upz_n (by omega)⟩)
  show upz mrw (100 * d + i) (nar (mrs d) v) (100 * d + t) = upz (Sh.va (F d.toNat)) i (nar (Sh.so (F d.toNat)) v) t
  by_cases q : t = i
  · rw [q, upz_s, upz_s, c2]
  · rw [upz_n (show 100 * d + t ≠ 100 * d + i by omega), upz_n q]
    exact c5 t h0 h1
theorem SHr.copy {F : Nat → Sh} {mhw mkk mkf mrs mrm mrw : Int → Int} (h : SHr F mhw mkk mkf mrs mrm mrw) {d i e j m : Int} (hd : 0 ≤ d ∧ d ≤ 7) (he : 0 ≤ e ∧ e ≤ 7) (hm : 0 ≤ m ∧ 0 ≤ i ∧ 0 ≤ j) (h1 : i + m ≤ Sh.sz (F d.toNat)) (h2 : j + m ≤ Sh.sz (F e.toNat)) : SHr (upF F e.toNat (Sh.set_va (F e.toNat) (cpz (Sh.va (F d.toNat)) (Sh.va (F e.toNat)) i j m))) mhw mkk mkf mrs mrm (cpz mrw mrw (100 * d + i) (100 * e + j) m) := by
  obtain ⟨b1, b2, b3, b4, b5, b6⟩ := h.2.1
  obtain ⟨-, -, c5⟩ := h.2.2 d hd.1 hd.2
  obtain ⟨⟨e1, e2, e3⟩, e4, e5⟩ := h.2.2 e he.1 he.2
  have hF := h.1 d.toNat (by omega)
  have hG := h.1 e.toNat (by omega)
  have hz := hF.sz
  have hy := hG.sz
  refine h.up he (Z := Sh.set_va (F e.toNat) (cpz (Sh.va (F d.toNat)) (Sh.va (F e.toNat)) i j m)) ⟨hG.1, hG.2.1, hG.2.2.1, hG.2.2.2.1, hG.2.2.2.2.1, fun t => ?_⟩ ⟨b1, b2, b3, b4, b5, fun t => ?_⟩ ⟨⟨e1, e2, e3⟩, e4, fun t t0 t1 => ?_⟩ (fun x h0 h7 ne => ⟨⟨rfl, rfl, rfl⟩, ⟨rfl, rfl⟩, fun t t0 t1 => ?_⟩)
  · show -2147483648 ≤ cpz (Sh.va (F d.toNat)) (Sh.va (F e.toNat)) i j m t ∧ cpz (Sh.va (F d.toNat)) (Sh.va (F e.toNat)) i j m t ≤ 2147483647
    unfold cpz
    split
    · exact hF.va _
    · exact hG.va _
  · unfold cpz
    split
    · exact b6 _
    · exact b6 _
  · show cpz mrw mrw (100 * d + i) (100 * e + j) m (100 * e + t) = cpz (Sh.va (F d.toNat)) (Sh.va (F e.toNat)) i j m t
    unfold cpz
    by_cases q : j ≤ t ∧ t < j + m
    · rw [if_pos q, if_pos (by omega), show 100 * d + i + (100 * e + t - (100 * e + j)) = 100 * d + (i + (t - j)) by omega]
      exact c5 _ (by omega) (by omega)
    · rw [if_neg q, if_neg (by omega)]
      exact e5 t t0 t1
  · unfold cpz
    rw [if_neg (by omega)]
def INV (F : Nat → Sh) (N P : Ct) (hp : Int) (mhw mkk mkf mrs mrm mrw : Int → Int) (Q : Ct) : Prop := NI N ∧ NI P ∧ (hp = 0 ∨ hp = 1) ∧ (hp = 1 → LcO Q = LcO P) ∧ SHr F mhw mkk mkf mrs mrm mrw
def PCQ (Q : Ct) : Int → Int := pck (Ct.h Q) (Ct.n Q) (Ct.dy Q) (Ct.kd Q) (Ct.fg Q) (Ct.ag Q) (Ct.po Q) (Ct.wy Q)
def WkN (γ : GX) (a : Nat → Nat) (N : Ct) (mhw mkk mkf mrs mrm mrw : Int → Int) (mth : Int) (Q : Ct) (hp : Int) (w : va_W) : Prop := Wk γ a (Ct.h N) (Ct.n N) (Ct.kd N) (Ct.fg N) (Ct.ag N) (Ct.po N) (Ct.wy N) (Ct.dy N) mhw mkk mkf mrs mrm mrw mth (PCQ Q) hp w
def LI (γ : GX) (b a : Nat → Nat) (o : Nat) (w : va_W) : Prop := ∃ F N M P hp sd mhw mkk mkf mrs mrm mrw mth Q wb g, w = WX γ b F N M P hp sd ++ wb ++ [(o, aJ γ 1 g)] ∧ WkN γ a N mhw mkk mkf mrs mrm mrw mth Q hp wb ∧ INV F N P hp mhw mkk mkf mrs mrm mrw Q
theorem INV.m {F : Nat → Sh} {N P : Ct} {hp : Int} {mhw mkk mkf mrs mrm mrw : Int → Int} {Q : Ct} (h : INV F N P hp mhw mkk mkf mrs mrm mrw Q) : WFm (Ct.n N) (Ct.h N) (Ct.kd N) (Ct.fg N) (Ct.ag N) (Ct.po N) (Ct.wy N) mhw mkk mkf mrs mrm mrw :=
  ⟨h.1.1.n, h.1.1.h, h.1.1.kd, h.1.1.fg, h.1.1.ag, h.1.1.po, h.1.1.wy, h.2.2.2.2.2.1⟩
/-- another country, the same else -/
theorem INV.ct {F : Nat → Sh} {N P : Ct} {hp : Int} {mhw mkk mkf mrs mrm mrw : Int → Int} {Q N' : Ct} (h : INV F N P hp mhw mkk mkf mrs mrm mrw Q) (hN : NI N') (x y : Int → Int) : INV F (Ct.set_wa N' x) (Ct.set_wa P y) hp mhw mkk mkf mrs mrm mrw Q := ⟨hN.wa x, h.2.1.wa y, h.2.2.1, h.2.2.2.1, h.2.2.2.2⟩
theorem INV.f {F F' : Nat → Sh} {N P : Ct} {hp : Int} {mhw mkk mkf mrs mrm mrw mhw' mkk' mkf' mrs' mrm' mrw' : Int → Int} {Q : Ct} (h : INV F N P hp mhw mkk mkf mrs mrm mrw Q) (hF : SHr F' mhw' mkk' mkf' mrs' mrm' mrw') (x y : Int → Int) : INV F' (Ct.set_wa N x) (Ct.set_wa P y) hp mhw' mkk' mkf' mrs' mrm' mrw' Q := ⟨h.1.wa x, h.2.1.wa y, h.2.2.1, h.2.2.2.1, hF⟩
/-! ## shelves, as both read them -/
theorem wr_c {d hd hd' c x x' : Int} (h : 0 ≤ d → d ≤ 7 → hd = hd' ∧ x = x') : q_wr d hd c x = q_wr d hd' c x' := by
  unfold q_wr
  by_cases q : 0 ≤ d ∧ d ≤ 7
  · obtain ⟨h1, h2⟩ := h q.1 q.2
    rw [h1, h2]
  · rw [if_neg q, if_neg q]
theorem fstz_c {f g : Nat → Int} : ∀ m, (∀ k, k < m → f k = g k) → fstz f m = fstz g m
  | 0, _ => rfl
  | m + 1, h => by
    unfold fstz
    rw [fstz_c m (fun k hk => h k (by omega)), h m (by omega)]
theorem rok_c {C : Ct} {so i : Int} {v v' : Int → Int} : ∀ m : Nat, (∀ t : Int, 0 ≤ t → t < (m : Int) → v t = v' t) → rok C so i v m = rok C so i v' m
  | 0, _ => rfl
  | m + 1, h => by
    unfold rok
    rw [rok_c m (fun t h0 h1 => h t h0 (by omega)), h (m : Int) (by omega) (by omega)]
theorem agn_c {C : Ct} {so i : Int} {v v' : Int → Int} {m : Nat} (h : ∀ t : Int, 0 ≤ t → t < (m : Int) → v t = v' t) : ∀ k, agn C so i v m k = agn C so i v' m k
  | 0 => rfl
  | k + 1 => by
    unfold agn
    rw [agn_c h k, show agis C so i v m k = agis C so i v' m k from rok_c m h]
theorem agl_c {C : Ct} {so i : Int} {v v' : Int → Int} {m : Nat} (h : ∀ t : Int, 0 ≤ t → t < (m : Int) → v t = v' t) : ∀ k, agl C so i v m k = agl C so i v' m k
  | 0 => rfl
  | k + 1 => by
    unfold agl
    rw [agl_c h k, show agis C so i v m k = agis C so i v' m k from rok_c m h]
theorem agg_c {C : Ct} {so i : Int} {v v' : Int → Int} {m : Nat} (h : ∀ t : Int, 0 ≤ t → t < (m : Int) → v t = v' t) : ∀ k, agg C so i v m k = agg C so i v' m k
  | 0 => rfl
  | k + 1 => by
    unfold agg
    rw [agg_c h k, show agis C so i v m k = agis C so i v' m k from rok_c m h]
theorem ages_c {F : Nat → Sh} {mhw mkk mkf mrs mrm mrw : Int → Int} (h : SHr F mhw mkk mkf mrs mrm mrw) (d : Int) (C : Ct) (i w : Int) : q_ages d (mhw d) (mrs d) (mrm d) (fun t => mrw (100 * d + t)) C i w = q_ages d (Sh.hd (F d.toNat)) (Sh.so (F d.toNat)) (Sh.sz (F d.toNat)) (Sh.va (F d.toNat)) C i w := by
  unfold q_ages
  by_cases q : q_one C i ∧ 0 ≤ w ∧ w ≤ 2
  · rw [if_pos q, if_pos q]
    refine wr_c (fun h0 h7 => ?_)
    obtain ⟨⟨c1, c2, c3⟩, -, c5⟩ := h.2.2 d h0 h7
    have hz := (h.1 d.toNat (by omega)).sz
    rw [c2, c3]
    have hv : ∀ t : Int, 0 ≤ t → t < ((Sh.sz (F d.toNat)).toNat : Int) → (fun t => mrw (100 * d + t)) t = Sh.va (F d.toNat) t := fun t t0 t1 => c5 t t0 (by omega)
    rw [agn_c hv, agl_c hv, agg_c hv]
    exact ⟨c1, rfl⟩
  · rw [if_neg q, if_neg q]
theorem whatIs_c {F : Nat → Sh} {mhw mkk mkf mrs mrm mrw : Int → Int} (h : SHr F mhw mkk mkf mrs mrm mrw) (d : Int) (C : Ct) (i w : Int) : q_whatIs d (mhw d) (mrs d) (mrm d) (fun t => mrw (100 * d + t)) C i w = q_whatIs d (Sh.hd (F d.toNat)) (Sh.so (F d.toNat)) (Sh.sz (F d.toNat)) (Sh.va (F d.toNat)) C i w := by
  unfold q_whatIs
  by_cases q : q_one C i ∧ 0 ≤ w ∧ w ≤ 1
  · rw [if_pos q, if_pos q]
    refine wr_c (fun h0 h7 => ?_)
    obtain ⟨⟨c1, c2, c3⟩, -, c5⟩ := h.2.2 d h0 h7
    have hz := (h.1 d.toNat (by omega)).sz
    rw [c2, c3]
    have hv : ∀ t : Int, 0 ≤ t → t < ((Sh.sz (F d.toNat)).toNat : Int) → (fun t => mrw (100 * d + t)) t = Sh.va (F d.toNat) t := fun t t0 t1 => c5 t t0 (by omega)
    refine ⟨c1, bitz_c (fun t => ?_) _⟩
    rw [show whis C (Sh.so (F d.toNat)) i (fun t => mrw (100 * d + t)) (Sh.sz (F d.toNat)).toNat w t = whis C (Sh.so (F d.toNat)) i (Sh.va (F d.toNat)) (Sh.sz (F d.toNat)).toNat w t from rok_c _ hv]
  · rw [if_neg q, if_neg q]
theorem forged_c {F : Nat → Sh} {mhw mkk mkf mrs mrm mrw : Int → Int} (h : SHr F mhw mkk mkf mrs mrm mrw) (d : Int) (C : Ct) : q_wr d (mhw d) 2 (fstz (q_fg C (fun t => mrw (100 * d + t))) (mrm d).toNat) = q_wr d (Sh.hd (F d.toNat)) 2 (fstz (q_fg C (Sh.va (F d.toNat))) (Sh.sz (F d.toNat)).toNat) := by
  refine wr_c (fun h0 h7 => ?_)
  obtain ⟨⟨c1, c2, c3⟩, -, c5⟩ := h.2.2 d h0 h7
  have hz := (h.1 d.toNat (by omega)).sz
  rw [c3]
  refine ⟨c1, fstz_c _ (fun k hk => ?_)⟩
  unfold q_fg
  rw [show (fun t => mrw (100 * d + t)) (k : Int) = Sh.va (F d.toNat) (k : Int) from c5 _ (by omega) (by omega)]
theorem judge_c {F : Nat → Sh} {mhw mkk mkf mrs mrm mrw : Int → Int} (h : SHr F mhw mkk mkf mrs mrm mrw) (d : Int) (C : Ct) : q_wr d (mhw d) 2 (fstz (q_jd C (mrs d) (fun t => mrw (100 * d + t))) (mrm d).toNat) = q_wr d (Sh.hd (F d.toNat)) 2 (fstz (q_jd C (Sh.so (F d.toNat)) (Sh.va (F d.toNat))) (Sh.sz (F d.toNat)).toNat) := by
  refine wr_c (fun h0 h7 => ?_)
  obtain ⟨⟨c1, c2, c3⟩, -, c5⟩ := h.2.2 d h0 h7
  have hz := (h.1 d.toNat (by omega)).sz
  rw [c2, c3]
  refine ⟨c1, fstz_c _ (fun k hk => ?_)⟩
  unfold q_jd
  rw [show (fun t => mrw (100 * d + t)) (k : Int) = Sh.va (F d.toNat) (k : Int) from c5 _ (by omega) (by omega)]
/-- behind a look at one that must hold a kind -/
theorem kind_c {F : Nat → Sh} {mhw mkk mkf mrs mrm mrw : Int → Int} (h : SHr F mhw mkk mkf mrs mrm mrw) (d : Int) (f : Int → Int → Int) : q_wr d (mhw d) 1 (f (mkk d) (mkf d)) = q_wr d (Sh.hd (F d.toNat)) 1 (f (Sh.kd (F d.toNat)) (Sh.fg (F d.toNat))) := by
  unfold q_wr
  by_cases q : 0 ≤ d ∧ d ≤ 7
  · obtain ⟨⟨c1, -, -⟩, c4, -⟩ := h.2.2 d q.1 q.2
    rw [c1]
    by_cases y : Sh.hd (F d.toNat) = 1
    · rw [(c4 y).1, (c4 y).2]
    · rw [if_neg y, if_neg y]
  · rw [if_neg q, if_neg q]
theorem uz_c {F : Nat → Sh} {mhw mkk mkf mrs mrm mrw : Int → Int} (h : SHr F mhw mkk mkf mrs mrm mrw) {d : Int} (h0 : 0 ≤ d) (h7 : d ≤ 7) : uz (fun t => mrw (100 * d + t)) (mrm d) = Sh.vz (F d.toNat) := by
  obtain ⟨⟨c1, c2, c3⟩, -, c5⟩ := h.2.2 d h0 h7
  have hz := (h.1 d.toNat (by omega)).sz
  funext i
  unfold uz Sh.vz
  rw [c3]
  by_cases q : 0 ≤ i ∧ i ≤ Sh.sz (F d.toNat) - 1
  · rw [if_pos q, if_pos q]
    exact c5 i q.1 (by omega)
  · rw [if_neg q, if_neg q]
theorem country_c {F : Nat → Sh} {mhw mkk mkf mrs mrm mrw : Int → Int} (h : SHr F mhw mkk mkf mrs mrm mrw) (d : Int) (C : Ct) : q_country d (mhw d) (mrs d) (mrm d) (uz (fun t => mrw (100 * d + t)) (mrm d)) C = q_country d (Sh.hd (F d.toNat)) (Sh.so (F d.toNat)) (Sh.sz (F d.toNat)) (Sh.vz (F d.toNat)) C := by
  unfold q_country
  refine wr_c (fun h0 h7 => ?_)
  obtain ⟨⟨c1, c2, c3⟩, -, -⟩ := h.2.2 d h0 h7
  rw [uz_c h h0 h7, c2, c3]
  exact ⟨c1, rfl⟩
theorem country_neg {d hd so sz : Int} {u : Int → Int} {C : Ct} (h : ¬ (0 ≤ d ∧ d ≤ 7)) : q_country d hd so sz u C = -1 := by
  unfold q_country q_wr
  exact if_neg h
end HLB
