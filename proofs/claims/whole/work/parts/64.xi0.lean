section HXI0
theorem vp_cell_R {cA : ClassId} {N : Nat} {f g : Nat → Option Nat} (h : ∀ k, k < N → f k = g k) : vp_cell cA (N, .inr (.inr (.inr (.inr f)))) = vp_cell cA (N, .inr (.inr (.inr (.inr g)))) := by
  show arrV cA N (fun j => va_rf (f j)) = arrV cA N (fun j => va_rf (g j))
  unfold arrV
  congr 1
  exact congrArg Array.ofFn (funext fun j => congrArg va_rf (h j.val j.isLt))
theorem aS_canon {γ : GX} {N : Nat} {f g : Int → Option Nat} {a : Nat} {H : Heap} (h : ∀ i : Int, 0 ≤ i → i < (N : Int) → f i = g i) (q : va_at γ.1 vwCl (a, aS γ N f) H) : va_at γ.1 vwCl (a, aS γ N g) H := by
  have q : H[a]? = some (vp_cell γ.2.2.2.1 (N, .inr (.inr (.inr (.inr (fun k : Nat => f (k : Int))))))) := q
  show H[a]? = some (vp_cell γ.2.2.2.1 (N, .inr (.inr (.inr (.inr (fun k : Nat => g (k : Int)))))))
  rw [q, vp_cell_R (fun k hk => h (k : Int) (by omega) (by omega))]
theorem aW_canon {γ : GX} {N : Nat} {f g : Int → Option Nat} {a : Nat} {H : Heap} (h : ∀ i : Int, 0 ≤ i → i < (N : Int) → f i = g i) (q : va_at γ.1 vwCl (a, aW γ N f) H) : va_at γ.1 vwCl (a, aW γ N g) H := by
  have q : H[a]? = some (vp_cell γ.2.2.2.2 (N, .inr (.inr (.inr (.inr (fun k : Nat => f (k : Int))))))) := q
  show H[a]? = some (vp_cell γ.2.2.2.2 (N, .inr (.inr (.inr (.inr (fun k : Nat => g (k : Int)))))))
  rw [q, vp_cell_R (fun k hk => h (k : Int) (by omega) (by omega))]
variable {X : CX} {k n : Nat} {ws : va_W} {pc : Nat} {L : List (Nat × Value)} {st : List Value}
theorem x_canonS {N a : Nat} {f g : Int → Option Nat} (q0 : Nat) (he : ws[q0]? = some (a, aS X.γ N f)) (h : ∀ i : Int, 0 ≤ i → i < (N : Int) → f i = g i) (ws' : va_W) (hw : ws.set q0 (a, aS X.γ N g) = ws') (kk : Wx X k n ws' pc L st) : Wx X k n ws pc L st := by
  intro H locs ls hP hD hS hl
  obtain ⟨h1, h2⟩ := va_P.canon hP hD he (aS_canon h)
  rw [hw] at h1 h2
  exact kk H locs ls h1 h2 hS hl
theorem x_canonW {N a : Nat} {f g : Int → Option Nat} (q0 : Nat) (he : ws[q0]? = some (a, aW X.γ N f)) (h : ∀ i : Int, 0 ≤ i → i < (N : Int) → f i = g i) (ws' : va_W) (hw : ws.set q0 (a, aW X.γ N g) = ws') (kk : Wx X k n ws' pc L st) : Wx X k n ws pc L st := by
  intro H locs ls hP hD hS hl
  obtain ⟨h1, h2⟩ := va_P.canon hP hD he (aW_canon h)
  rw [hw] at h1 h2
  exact kk H locs ls h1 h2 hS hl
theorem upz_eq {f : Int → Option Nat} {i j : Int} {v : Option Nat} (h : j = i) : upz f i v j = v := if_pos h
theorem upz_ne {f : Int → Option Nat} {i j : Int} {v w : Option Nat} (h : j ≠ i) (k : f j = w) : upz f i v j = w := (if_neg h).trans k
end HXI0
