/-! A YEAR'S END, as functions of the reference's row -/
abbrev mNeg (N : Int → Int) (nI : Nat) (o : Int) : Prop := mInc N nI o < 0 ∧ 0 < N 1 ∧ N 4 < 10
def nUse (N : Int → Int) (nL : Nat) (f : Int → Int) : Int → Int := fun j => if 395 ≤ j ∧ j < 395 + 4 * nL ∧ (j - 395) % 4 = 3 then f ((j - 395) / 4) else N j
theorem zUsd_eq {N N' : Int → Int} {nL : Nat} {f : Int → Int} (h : zUsd N N' nL f) : N' = nUse N nL f := by
  funext j
  unfold nUse
  by_cases c : 395 ≤ j ∧ j < 395 + 4 * nL ∧ (j - 395) % 4 = 3
  · rw [if_pos c]
    have g := h.1 ((j - 395) / 4) (by omega) (by omega)
    rw [show 395 + 4 * ((j - 395) / 4) + 3 = j by omega] at g
    exact g
  · rw [if_neg c]
    exact h.2 j (fun l a b e => c (by omega))
def nBears (N : Int → Int) (nI nL : Nat) (o : Int) : Int → Int :=
  if mNeg N nI o then nLoss (nB1 N nI o) o (-(mInc N nI o)) (if N 0 + N 1 < 40 then N 0 + N 1 else 39)
  else if 0 < mInc N nI o then nUse (nB1 N nI o) nL (mLeft (nB1 N nI o) nL o (N 0) (mInc N nI o)) else nB1 N nI o
theorem nB1_same {N : Int → Int} {nI : Nat} {o : Int} (h0 : 0 ≤ o) (hy : 0 ≤ N 0) : zSame N (nB1 N nI o) := fun j a b => by
  unfold nB1
  exact zu1_ne (by omega)
theorem mInc_b {N : Int → Int} {nI nL : Nat} (hW : mW N nI nL) {o : Int} (g0 : 0 ≤ o) (g1 : o < 3) : -2999970 ≤ mInc N nI o ∧ mInc N nI o ≤ 3099969 := by
  have a1 := mTax_b hW o (N 0)
  have a2 := mDed_b hW o (N 0)
  have a3 := (hW.2.2.2.2.2.2.2.1 o (N 0) g0 g1 hW.1.1 (by have := hW.1.2; omega)).2
  unfold mTax at a1
  unfold mDed at a2
  unfold mInc
  omega
