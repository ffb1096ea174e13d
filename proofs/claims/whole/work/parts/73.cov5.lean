/-! what does not depend on rates -/
def zSm (N N1 : Int → Int) : Prop := ∀ j : Int, 0 ≤ j → j < 435 → j < 5 ∨ 125 ≤ j → N1 j = N j
section
variable {N N1 : Int → Int} {nI nL : Nat}
theorem mDed_r (h : zSm N N1) (hn : nI ≤ 30) (o t : Int) : mDed N1 nI o t = mDed N nI o t := zPs_congr (fun i a b f c d => h _ (by omega) (by omega) (by omega)) o t 0
theorem mTax_r (h : zSm N N1) (hn : nI ≤ 30) (o t : Int) : mTax N1 nI o t = mTax N nI o t := zPs_congr (fun i a b f c d => h _ (by omega) (by omega) (by omega)) o t 1
theorem mP0_r (h : zSm N N1) (hn : nL ≤ 10) (o : Int) : mP0 N1 nL o = mP0 N nL o := by
  funext l
  unfold mP0
  rw [h 0 (by omega) (by omega) (by omega)]
  exact zL0_congr (fun i a b f c d => h _ (by omega) (by omega) (by omega)) o _ l
theorem mCov_r (h : zSm N N1) (hn : nI ≤ 30) {o yr more t : Int} (g0 : 0 ≤ o) (g1 : o < 3) (h0 : 0 ≤ t) (h1 : t < 40) : mCov N1 nI o yr more t = mCov N nI o yr more t := by
  unfold mCov
  rw [mTax_r h hn, h _ (by omega) (by omega) (by omega)]
theorem mU_r (h : zSm N N1) (hW : mW N nI nL) {o yr more : Int} (g0 : 0 ≤ o) (g1 : o < 3) {r : Nat} (hr : N 0 + 1 + r < 40) : mU N1 nI nL o yr more (N 0 + 1 + r) = mU N nI nL o yr more (N 0 + 1 + r) := by
  obtain ⟨w0, w1, w2, w3, w4, w5, w6, w7, w8, w9⟩ := hW
  have e0 := h 0 (by omega) (by omega) (by omega)
  have g := mU_at (N := N1) (nI := nI) (nL := nL) (o := o) (yr := yr) (more := more) (r := r)
  rw [e0] at g
  rw [g, mU_at, mDed_r h w4, mCov_r h w4 g0 g1 (by omega) (by omega), h 1 (by omega) (by omega) (by omega)]
  congr 1
  exact zUL_congr (mP0_r h w6 o) r (fun q hq => ⟨mDed_r h w4 o _, mCov_r h w4 g0 g1 (by omega) (by omega)⟩)
end
/-- what the sums of tax are made of -/
def cR (A : zAI) (N : Int → Int) (nI nL : Nat) (o my more : Int) : Prop := ∀ t : Int, 0 ≤ t → t < 40 → A 6 t = (if N 0 < t then mTax N nI o t else 0) ∧ A 10 t = (if N 0 < t then mU N nI nL o my more t else 0) ∧ A 12 t = N (5 + 40 * o + t)
theorem cV.r {A : zAI} {F : zFI} {N : Int → Int} {nI nL : Nat} {o my more : Int} (h : cV A F N nI nL o my more) : cR A N nI nL o my more := fun t a b => by
  have q := h.1 t a b
  refine ⟨q.1, ?_, q.2.2.1⟩
  by_cases c : N 0 < t
  · rw [if_pos c]; exact (h.2.1 t c b).2.2.1
  · rw [if_neg c]; exact q.2.2.2 (by omega)
theorem cR_rate {A : zAI} {N : Int → Int} {nI nL : Nat} {o my more y r : Int} (hW : mW N nI nL) (h : cR A N nI nL o my more) (h0 : 0 ≤ o) (h1 : o < 3) (h2 : 0 ≤ y) : cR (zfill A 12 y 40 r) (zfl N (5 + 40 * o + y) (5 + 40 * o + 40) r) nI nL o my more := fun t a b => by
  have hS : zSm N (zfl N (5 + 40 * o + y) (5 + 40 * o + 40) r) := fun j _ _ c => if_neg (by omega)
  have e0 := hS 0 (by omega) (by omega) (by omega)
  have q := h t a b
  have w4 := hW.2.2.2.2.1
  have w0 := hW.1
  rw [e0, zfill_neF (show 6 ≠ 12 by decide), zfill_neF (show 10 ≠ 12 by decide), mTax_r hS w4]
  refine ⟨q.1, ?_, ?_⟩
  · by_cases c : N 0 < t
    · rw [if_pos c]
      have g := mU_r hS hW (yr := my) (more := more) h0 h1 (r := (t - (N 0 + 1)).toNat) (by omega)
      rw [show N 0 + 1 + ((t - (N 0 + 1)).toNat : Int) = t by omega] at g
      rw [g]
      have q2 := q.2.1
      rw [if_pos c] at q2
      exact q2
    · have q2 := q.2.1
      rw [if_neg c] at q2 ⊢
      exact q2
  · rw [zfill_eqF]
    unfold zfl
    by_cases c : y ≤ t ∧ t < 40
    · rw [if_pos c, if_pos (by omega)]
    · rw [if_neg c, if_neg (by omega)]; exact q.2.2
theorem cR_b {A : zAI} {N : Int → Int} {nI nL : Nat} {o my more : Int} (hW : mW N nI nL) (h : cR A N nI nL o my more) (g0 : 0 ≤ o) (g1 : o < 3) (g2 : 0 ≤ more) (g3 : more ≤ 99999) : ∀ j : Int, 0 ≤ j → j < 40 → (0 ≤ A 6 j ∧ A 6 j ≤ 4000000) ∧ (0 ≤ A 10 j ∧ A 10 j ≤ 4000000) ∧ (0 ≤ A 12 j ∧ A 12 j ≤ 900) := fun j a b => by
  have q := h j a b
  have w0 := hW.1
  have rb := (hW.2.2.2.2.2.2.2.1 o j g0 g1 a b).1
  rw [q.1, q.2.1, q.2.2]
  refine ⟨?_, ?_, rb⟩
  · have tb := mTax_b hW o j
    split <;> omega
  · split
    · rename_i c
      have tb := mU_b hW (yr := my) (more := more) (r := (j - (N 0 + 1)).toNat) g0 g1 g2 g3 (by omega)
      have cb := mCov_b hW (yr := my) (t := j) g0 g1 g2 g3 a b
      rw [show N 0 + 1 + ((j - (N 0 + 1)).toNat : Int) = j by omega] at tb
      omega
    · omega
theorem cR_li {A : zAI} {N : Int → Int} {nI nL : Nat} {o my more : Int} (hW : mW N nI nL) (h : cR A N nI nL o my more) : zS (fun i => A 6 i * A 12 i / 1000) 40 = mLi N nI o := by
  have w0 := hW.1
  unfold mLi
  refine zS_tail (y := N 0) (g := fun t => mTax N nI o t * N (5 + 40 * o + t) / 1000) w0.1 w0.2 (fun t a b => ?_) (fun t a b => ?_)
  · have q := (h t a (by omega)).1
    rw [if_neg (by omega)] at q
    show A 6 t * A 12 t / 1000 = 0
    rw [q]
    simp
  · have q := h t (by omega) b
    rw [if_pos a] at q
    show A 6 t * A 12 t / 1000 = _
    rw [q.1, q.2.2]
theorem cR_as {A : zAI} {N : Int → Int} {nI nL : Nat} {o my more : Int} (hW : mW N nI nL) (h : cR A N nI nL o my more) : zS (fun i => A 10 i * A 12 i / 1000) 40 = mAs N nI nL o my more := by
  have w0 := hW.1
  unfold mAs
  refine zS_tail (y := N 0) (g := fun t => mU N nI nL o my more t * N (5 + 40 * o + t) / 1000) w0.1 w0.2 (fun t a b => ?_) (fun t a b => ?_)
  · have q := (h t a (by omega)).2.1
    rw [if_neg (by omega)] at q
    show A 10 t * A 12 t / 1000 = 0
    rw [q]
    simp
  · have q := (h t (by omega) b).2.1
    have q2 := (h t (by omega) b).2.2
    rw [if_pos a] at q
    show A 10 t * A 12 t / 1000 = _
    rw [q, q2]
