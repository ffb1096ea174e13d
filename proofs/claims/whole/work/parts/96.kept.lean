/-- behind fill: what is kept is what the reference keeps -/
theorem kV_fill {AI A : zAI} {FI : zFI} {K : Nat} {N : Int → Int} {nI nL : Nat} {o was by' : Int} (hW : mW N nI nL) (hv : cV AI FI N nI nL o (-1) 0) (g0 : 0 ≤ o) (g1 : o < 3) (hw : was = mWas N o) (hb : by' = mByR N o)
    (a0 : A (K + 1) 0 = mLi N nI o) (a1 : A (K + 1) 1 = mAs N nI nL o (-1) 0) (a2 : A (K + 1) 2 = mUn N nI nL o (-1) 0) (a3 : A (K + 1) 3 = mAs N nI nL o (-1) 0 - mLi N nI o - was) (a4 : A (K + 1) 4 = by' - was) (a5 : A (K + 1) 5 = mAs N nI nL o (-1) 0 - mLi N nI o - was - (by' - was)) (a6 : A (K + 1) 6 = N (435 + 240 * o + 6 * N 0 + 5)) (at2 : ∀ t : Int, 0 ≤ t → t < 40 → A (K + 2) t = AI 6 t) (at3 : ∀ t : Int, 0 ≤ t → t < 40 → A (K + 3) t = AI 10 t) :
    kV A K (nCloses N nI nL o) o (N 0) ∧ kT A K (nCloses N nI nL o) o (N 0) := by
  have w0 := hW.1
  have c1 : ∀ j : Int, j < 1155 → nCloses N nI nL o j = nCl1 N nI nL o j := fun j hj => by
    unfold nCloses nCl2
    rw [if_neg (by omega), if_neg (by omega)]
  have f4 : (if N 0 = 0 then (0 : Int) else mByR N o - mWas N o) = by' - was := by
    split
    · rename_i h
      have e1 : mWas N o = 0 := if_pos h
      have e2 : mByR N o = 0 := if_pos h
      omega
    · omega
  have n0 : nCl1 N nI nL o (435 + 240 * o + 6 * N 0 + 0) = mLi N nI o := by unfold nCl1; simp (disch := omega) only [zu1_ne, zu1_eq]
  have n1 : nCl1 N nI nL o (435 + 240 * o + 6 * N 0 + 1) = mAs N nI nL o (-1) 0 := by unfold nCl1; simp (disch := omega) only [zu1_ne, zu1_eq]
  have n2 : nCl1 N nI nL o (435 + 240 * o + 6 * N 0 + 2) = mUn N nI nL o (-1) 0 := by unfold nCl1; simp (disch := omega) only [zu1_ne, zu1_eq]
  have n3 : nCl1 N nI nL o (435 + 240 * o + 6 * N 0 + 3) = mAs N nI nL o (-1) 0 - mLi N nI o - mWas N o := by unfold nCl1; simp (disch := omega) only [zu1_ne, zu1_eq]
  have n4 : nCl1 N nI nL o (435 + 240 * o + 6 * N 0 + 4) = by' - was := by unfold nCl1; rw [zu1_eq]; exact f4
  have n5 : nCl1 N nI nL o (435 + 240 * o + 6 * N 0 + 5) = N (435 + 240 * o + 6 * N 0 + 5) := by unfold nCl1; simp (disch := omega) only [zu1_ne]
  refine ⟨⟨fun f a b => ?_, ?_, ?_⟩, fun t a b => ?_⟩
  · rw [c1 _ (by omega)]
    rcases (show f = 0 ∨ f = 1 ∨ f = 2 ∨ f = 3 ∨ f = 4 by omega) with e | e | e | e | e <;> subst e
    · rw [n0, a0]
    · rw [n1, a1]
    · rw [n2, a2]
    · rw [n3, a3, hw]
    · rw [n4, a4]
  · rw [c1 _ (by omega), c1 _ (by omega), n3, n4, a5, hw]
  · rw [c1 _ (by omega), n5, a6]
  · have q := hv.r t a b
    rw [at2 t a b, at3 t a b, q.1, q.2.1]
    by_cases c : N 0 < t
    · rw [if_pos c, if_pos c, if_pos c, if_pos c]
      unfold nCloses nCl2
      rw [if_pos (by omega), if_neg (by omega), if_pos (by omega)]
      exact ⟨by congr 1; omega, by congr 1; omega⟩
    · rw [if_neg c, if_neg c, if_neg c, if_neg c]
      exact ⟨rfl, rfl⟩
