/-! THE DESK -/
def dLay (T : zTt) (FR : zFR) (B D : Nat) : Prop := T 0 = (1, 6) ∧ T 1 = (1, 5) ∧ T 2 = (3, 640) ∧ T 3 = (1, 4) ∧ T 4 = (2, 4) ∧ T 14 = (1, 0) ∧ T 15 = (5, 10) ∧ T 16 = (6, 117) ∧ FR 0 1 = some 1 ∧ FR 0 0 = some 3 ∧ FR 0 2 = some 5 ∧ FR 0 3 = some 14 ∧ FR 0 4 = some 16 ∧ FR 0 5 = some B ∧ FR 3 2 = some D ∧ FR 1 0 = some 2 ∧ FR 3 1 = some 4 ∧ FR 14 0 = some 15 ∧ FR 3 0 = some 1
theorem mUn_0 {N : Int → Int} {nI nL : Nat} {o yr yr' : Int} : mUn N nI nL o yr 0 = mUn N nI nL o yr' 0 := by
  have e : mCov N nI o yr 0 = mCov N nI o yr' 0 := by
    funext t
    unfold mCov
    split <;> split <;> rfl
  unfold mUn mU
  rw [e]
