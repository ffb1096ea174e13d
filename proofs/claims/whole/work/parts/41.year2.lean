/-! THE ROW STAYS AS IT SHOULD BE over a year's end -/
def mG (N : Int → Int) : Prop := mW N (N 3).toNat (N 4).toNat ∧ mCl N ∧ mCb N
def nBr (N : Int → Int) (o : Int) : Int → Int := nBears N (N 3).toNat (N 4).toNat o
def nCs (N : Int → Int) (o : Int) : Int → Int := nCloses N (N 3).toNat (N 4).toNat o
def zit (f : (Int → Int) → Int → Int → Int) (N : Int → Int) : Nat → Int → Int
  | 0 => N
  | k + 1 => f (zit f N k) k
def nYear (N : Int → Int) : Int → Int := zu1 (zit nCs (zit nBr N (N 2).toNat) (N 2).toNat) 0 (N 0 + 1)
theorem mLeft_b {N : Int → Int} {nI nL : Nat} (hW : mW N nI nL) {o y u l : Int} (h0 : 0 ≤ l) (h1 : l < nL) : 0 ≤ mLeft N nL o y u l ∧ mLeft N nL o y u l ≤ N (395 + 4 * l + 3) := by
  have w := hW.2.2.2.2.2.2.2.2.2 l h0 h1
  have q := ztk_b (el := mEl N o y) (ls := mLs N) (lf := mLf N) (nL := nL) (u := u) (l := l) w.2.2.2.1
  unfold mLeft
  unfold mLf at q ⊢
  omega
theorem nBears_in {N : Int → Int} {nI nL : Nat} {o : Int} (hW : mW N nI nL) (h0 : 0 ≤ o) : ∀ j : Int, (0 ≤ j ∧ j < 395 ∧ j ≠ 4) ∨ 435 ≤ j → nBears N nI nL o j = nB1 N nI o j := fun j hj => by
  obtain ⟨w0, w1, w2, w3, w4, w5, w6, w7, w8, w9⟩ := id hW
  have e4 : nB1 N nI o 4 = nL := (nB1_same h0 w0.1 4 (by omega) (by omega)).trans w5
  unfold nBears
  split
  · rename_i hg
    have hg3 := hg.2.2
    unfold nLoss
    rw [e4, zu1_ne (by omega), zu1_ne (by omega), zu1_ne (by omega), zu1_ne (by omega), zu1_ne (by omega)]
  · split
    · unfold nUse
      rw [if_neg (by omega)]
    · rfl
theorem nB1_hi {N : Int → Int} {nI : Nat} {o j : Int} (h : j ≠ 435 + 240 * o + 6 * N 0 + 5) : nB1 N nI o j = N j := zu1_ne h
theorem nBears_lo {N : Int → Int} {nI nL : Nat} {o : Int} (hW : mW N nI nL) (h0 : 0 ≤ o) : ∀ j : Int, 0 ≤ j ∧ j < 395 ∧ j ≠ 4 → nBears N nI nL o j = N j := fun j hj => by
  have w0 := hW.1
  rw [nBears_in hW h0 j (Or.inl hj), nB1_hi (by omega)]
theorem nBears_W {N : Int → Int} {nI nL : Nat} {o : Int} (hW : mW N nI nL) (h0 : 0 ≤ o) (h1 : o < 3) : mW (nBears N nI nL o) nI (nBears N nI nL o 4).toNat := by
  obtain ⟨w0, w1, w2, w3, w4, w5, w6, w7, w8, w9⟩ := id hW
  have lo := nBears_lo hW h0
  have hS := nB1_same (N := N) (nI := nI) (o := o) h0 w0.1
  have hW1 := mW_c hS hW
  have ib := mInc_b hW h0 h1
  have e4 : nB1 N nI o 4 = nL := (hS 4 (by omega) (by omega)).trans w5
  have key : 0 ≤ nBears N nI nL o 4 ∧ nBears N nI nL o 4 ≤ 10 ∧ ∀ k : Int, 0 ≤ k → k < nBears N nI nL o 4 → wL (mLo (nBears N nI nL o)) k := by
    unfold nBears
    split
    · rename_i hg
      obtain ⟨hg1, hg2, hg3⟩ := hg
      have f4 : nLoss (nB1 N nI o) o (-(mInc N nI o)) (if N 0 + N 1 < 40 then N 0 + N 1 else 39) 4 = nL + 1 := by
        unfold nLoss
        rw [zu1_eq, e4]
      rw [f4]
      refine ⟨by omega, by omega, fun k a b => ?_⟩
      by_cases ek : k = nL
      · subst ek
        simp only [wL, mLo]
        unfold nLoss
        rw [e4]
        simp (disch := omega) only [zu1_ne, zu1_eq]
        refine ⟨⟨h0, h1⟩, ⟨by omega, by omega⟩, ?_, by omega, by omega⟩
        split <;> omega
      · have w := hW1.2.2.2.2.2.2.2.2.2 k a (by omega)
        simp only [wL, mLo] at w ⊢
        unfold nLoss
        rw [e4]
        simp (disch := omega) only [zu1_ne]
        exact w
    · split
      · have f4 : nUse (nB1 N nI o) nL (mLeft (nB1 N nI o) nL o (N 0) (mInc N nI o)) 4 = nL := by
          unfold nUse
          rw [if_neg (by omega), e4]
        rw [f4]
        refine ⟨by omega, by omega, fun k a b => ?_⟩
        have w := hW1.2.2.2.2.2.2.2.2.2 k a (by omega)
        have lb := mLeft_b hW1 (o := o) (y := N 0) (u := mInc N nI o) a (by omega)
        simp only [wL, mLo] at w ⊢
        unfold nUse
        rw [if_neg (by omega), if_neg (by omega), if_neg (by omega), if_pos (by omega), show (395 + 4 * k + 3 - 395) / 4 = k by omega]
        refine ⟨w.1, w.2.1, w.2.2.1, lb.1, by omega⟩
      · rw [e4]
        exact ⟨by omega, by omega, fun k a b => hW1.2.2.2.2.2.2.2.2.2 k a b⟩
  refine ⟨by rw [lo 0 (by omega)]; exact w0, by rw [lo 1 (by omega)]; exact w1, by rw [lo 2 (by omega)]; exact w2, by rw [lo 3 (by omega)]; exact w3, w4, by omega, by omega, fun o' y' a b c d => ?_, fun i a b => ?_, fun k a b => key.2.2 k a (by omega)⟩
  · rw [lo _ (by omega), lo _ (by omega)]; exact w7 o' y' a b c d
  · have := w8 i a b
    simp only [wI, mIt] at this ⊢
    rw [lo _ (by omega), lo _ (by omega), lo _ (by omega), lo _ (by omega), lo _ (by omega)]
    exact this
theorem nBr_G {N : Int → Int} {o : Int} (hG : mG N) (h0 : 0 ≤ o) (h1 : o < 3) : mG (nBr N o) ∧ ∀ j : Int, 0 ≤ j ∧ j < 395 ∧ j ≠ 4 → nBr N o j = N j := by
  obtain ⟨hW, hC, hb⟩ := hG
  have lo := nBears_lo hW h0
  have hi := nBears_in hW h0
  have w0 := hW.1
  have w3 := hW.2.2.2.1
  have ib := mInc_b hW h0 h1
  refine ⟨⟨?_, ⟨fun j a b => ?_, fun j a b => ?_⟩, fun o' y a b c d => ?_⟩, lo⟩
  · have q := nBears_W hW h0 h1
    have e : (nBr N o 3).toNat = (N 3).toNat := by
      unfold nBr
      rw [lo 3 (by omega)]
    rw [e]
    exact q
  · unfold nBr
    rw [hi j (by omega)]
    by_cases e : j = 435 + 240 * o + 6 * N 0 + 5
    · rw [e]
      unfold nB1
      rw [zu1_eq]
      omega
    · rw [nB1_hi e]; exact hC.1 j a b
  · unfold nBr
    rw [hi j (by omega), nB1_hi (by omega)]; exact hC.2 j a b
  · unfold nBr
    rw [hi _ (by omega), hi _ (by omega), nB1_hi (by omega), nB1_hi (by omega)]
    exact hb o' y a b c d
theorem nCs_G {N : Int → Int} {o : Int} (hG : mG N) (h0 : 0 ≤ o) (h1 : o < 3) : mG (nCs N o) ∧ zSame N (nCs N o) := by
  obtain ⟨hW, hC, hb⟩ := hG
  have w0 := hW.1
  have hS : zSame N (nCs N o) := nCloses_same h0 w0.1
  have lb := mLi_b hW h0 h1
  have ab := mAs_b hW (yr := -1) (more := 0) h0 h1 (by omega) (by omega)
  have ub := mUn_b hW (yr := -1) (more := 0) h0 h1 (by omega) (by omega)
  have wb := mWas_b hb h0 h1 w0.1 (by omega)
  have bb := mByR_b hW hC h0 h1
  have c1 : ∀ j : Int, j < 1155 → nCs N o j = nCl1 N (N 3).toNat (N 4).toNat o j := fun j hj => by
    unfold nCs nCloses nCl2
    rw [if_neg (by omega), if_neg (by omega)]
  refine ⟨⟨?_, ⟨fun j a b => ?_, fun j a b => ?_⟩, fun o' y a b c d => ?_⟩, hS⟩
  · rw [hS 3 (by omega) (by omega), hS 4 (by omega) (by omega)]
    exact mW_c hS hW
  · rw [c1 j b]
    unfold nCl1
    have q := hC.1 j a b
    unfold zu1
    split
    · split <;> omega
    · split
      · omega
      · split
        · omega
        · split
          · omega
          · split <;> omega
  · unfold nCs nCloses nCl2
    split
    · have := mTax_b hW o (j - (1155 + 40 * o))
      omega
    · split
      · rename_i g1 g2
        have tb := mU_b hW (yr := -1) (more := 0) (r := (j - (1275 + 40 * o) - (N 0 + 1)).toNat) h0 h1 (by omega) (by omega) (by omega)
        have cb := mCov_b hW (yr := -1) (more := 0) (t := j - (1275 + 40 * o)) h0 h1 (by omega) (by omega) (by omega) (by omega)
        rw [show N 0 + 1 + ((j - (1275 + 40 * o) - (N 0 + 1)).toNat : Int) = j - (1275 + 40 * o) by omega] at tb
        omega
      · unfold nCl1
        rw [zu1_ne (by omega), zu1_ne (by omega), zu1_ne (by omega), zu1_ne (by omega), zu1_ne (by omega)]
        exact hC.2 j a b
  · rw [c1 _ (by omega), c1 _ (by omega)]
    have q := hb o' y a b c d
    unfold nCl1
    by_cases e : o' = o ∧ y = N 0
    · rw [e.1, e.2]
      simp (disch := omega) only [zu1_ne, zu1_eq]
      omega
    · simp (disch := omega) only [zu1_ne]
      exact q
theorem zit_Br {N : Int → Int} (hG : mG N) : ∀ k : Nat, k ≤ 3 → mG (zit nBr N k) ∧ ∀ j : Int, 0 ≤ j ∧ j < 395 ∧ j ≠ 4 → zit nBr N k j = N j
  | 0, _ => ⟨hG, fun _ _ => rfl⟩
  | k + 1, hk => by
    have ih := zit_Br hG k (by omega)
    have q := nBr_G ih.1 (o := (k : Int)) (by omega) (by omega)
    exact ⟨q.1, fun j hj => (q.2 j hj).trans (ih.2 j hj)⟩
theorem zit_Cs {N : Int → Int} (hG : mG N) : ∀ k : Nat, k ≤ 3 → mG (zit nCs N k) ∧ zSame N (zit nCs N k)
  | 0, _ => ⟨hG, fun _ _ _ => rfl⟩
  | k + 1, hk => by
    have ih := zit_Cs hG k (by omega)
    have q := nCs_G ih.1 (o := (k : Int)) (by omega) (by omega)
    exact ⟨q.1, fun j a b => (q.2 j a b).trans (ih.2 j a b)⟩
