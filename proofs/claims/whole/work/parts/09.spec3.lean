section HSPEC3
/-! ## kinds -/
def prW (ag : Int) : Int := if ag < 60 then 0 else (ag - 60) / 10
def prR (ag : Int) : Int := if prW ag < 1 then 0 else prW ag - 1
def prS (ag : Int) : Int := prW ag + (if 60 ≤ ag then 2 else 0)
def prF (k fg ag : Int) : Int := if k = 1 then prR ag else if k = 3 then prS ag else if k = 4 then 2 * prS ag else if k = 5 then prR ag + fg / 3 else if k = 6 then prW ag + 1 else if k = 7 then 0 else prW ag
def spF (k : Int) : Int := if k = 1 then 1 else if k = 4 then 2 else if k = 5 then 2 else 0
def srF (k fg : Int) : Int := if k = 1 then 1 else if k = 5 then 1 else if k = 3 then 0 else if k = 4 then 0 else if k = 6 then 3 else if k = 7 then 3 + fg / 3 else 2
def shH (fg ag : Int) : Int := if ag < fg + 10 then 0 else ag - (fg + 10)
def shF (k fg ag : Int) : Int := if k = 2 then shH fg ag else if k = 6 then shH fg ag / 2 else ag
def coF (k fg : Int) : Int := if k = 1 then 3 + fg else if k = 7 then 3 + fg else if k = 2 then 2 else if k = 6 then 2 else if k = 3 then 0 else if k = 4 then 9 else if k = 5 then 2 * (3 + fg) else 3
def faF (k fg : Int) : Int := if k = 1 then 100 + fg else if k = 5 then 200 + coF 5 fg else fg
theorem prW_b {ag : Int} (h : 0 ≤ ag ∧ ag ≤ 120) : 0 ≤ prW ag ∧ prW ag ≤ 6 := by unfold prW; omega
theorem prF_b {k fg ag : Int} (hf : 0 ≤ fg ∧ fg ≤ 9) (h : 0 ≤ ag ∧ ag ≤ 120) : 0 ≤ prF k fg ag ∧ prF k fg ag ≤ 16 := by
  have := prW_b h
  unfold prF prR prS
  omega
theorem spF_b (k : Int) : 0 ≤ spF k ∧ spF k ≤ 2 := by unfold spF; omega
theorem srF_b {k fg : Int} (hf : 0 ≤ fg ∧ fg ≤ 9) : 0 ≤ srF k fg ∧ srF k fg ≤ 6 := by unfold srF; omega
theorem shF_b {k fg ag : Int} (hf : 0 ≤ fg ∧ fg ≤ 9) (h : 0 ≤ ag ∧ ag ≤ 120) : 0 ≤ shF k fg ag ∧ shF k fg ag ≤ 120 := by unfold shF shH; omega
/-- the kinds: the array, the eight objects -/
def KI (γ : GX) (a : Nat → Nat) : va_W := [(a 11, aW γ 8 (fun k => some (a (12 + k.toNat)))), (a 12, ob 8 []), (a 13, ob 4 []), (a 14, ob 3 []), (a 15, ob 6 []), (a 16, ob 2 []), (a 17, ob 0 []), (a 18, ob 7 []), (a 19, ob 9 [])]
end HSPEC3
