/-! what depends on the first 435 places of a row alone -/
def zSame (N N1 : Int → Int) : Prop := ∀ j : Int, 0 ≤ j → j < 435 → N1 j = N j
theorem zUp_congr {it it' : Int → Int → Int} {i : Int} (h : ∀ f : Int, 0 ≤ f → f < 5 → it' i f = it i f) (y : Int) : zUp it' i y = zUp it i y := by
  unfold zUp
  rw [h 2 (by omega) (by omega), h 3 (by omega) (by omega), h 4 (by omega) (by omega)]
theorem zPart_congr {it it' : Int → Int → Int} {i : Int} (h : ∀ f : Int, 0 ≤ f → f < 5 → it' i f = it i f) (y : Int) : zPart it' i y = zPart it i y := by
  unfold zPart
  rw [zUp_congr h, zUp_congr h]
theorem zPs_congr {it it' : Int → Int → Int} {n : Nat} (h : ∀ i : Int, 0 ≤ i → i < n → ∀ f : Int, 0 ≤ f → f < 5 → it' i f = it i f) (o y tx : Int) : zPs it' n o y tx = zPs it n o y tx := by
  refine zS_congr n (fun i a b => ?_)
  rw [h i a b 0 (by omega) (by omega), h i a b 1 (by omega) (by omega), zPart_congr (h i a b)]
theorem zL0_congr {lo lo' : Int → Int → Int} {n : Nat} (h : ∀ i : Int, 0 ≤ i → i < n → ∀ f : Int, 0 ≤ f → f < 4 → lo' i f = lo i f) (o t l : Int) : zL0 lo' n o t l = zL0 lo n o t l := by
  refine zS_congr n (fun i a b => ?_)
  rw [h i a b 0 (by omega) (by omega), h i a b 2 (by omega) (by omega), h i a b 3 (by omega) (by omega)]
theorem zPf_congr {ded ded' cov cov' P0 P0' : Int → Int} {c t0 : Int} (hP : P0' = P0) : ∀ s : Nat, (∀ r : Nat, r < s → ded' (t0 + r) = ded (t0 + r) ∧ cov' (t0 + r) = cov (t0 + r)) → zPf ded' cov' c P0' t0 s = zPf ded cov c P0 t0 s
  | 0, _ => hP
  | s + 1, h => by
    have ih := zPf_congr (c := c) hP s (fun r hr => h r (by omega))
    funext l
    show zP2 ded' cov' c (zPf ded' cov' c P0' t0 s) (t0 + s) l - zP2 ded' cov' c (zPf ded' cov' c P0' t0 s) (t0 + s) (t0 + s) = zP2 ded cov c (zPf ded cov c P0 t0 s) (t0 + s) l - zP2 ded cov c (zPf ded cov c P0 t0 s) (t0 + s) (t0 + s)
    rw [ih]
    unfold zP2
    rw [(h s (by omega)).1, (h s (by omega)).2]
theorem zUL_congr {ded ded' cov cov' P0 P0' : Int → Int} {c t0 : Int} (hP : P0' = P0) (s : Nat) (h : ∀ r : Nat, r ≤ s → ded' (t0 + r) = ded (t0 + r) ∧ cov' (t0 + r) = cov (t0 + r)) : zUL ded' cov' c P0' t0 s = zUL ded cov c P0 t0 s := by
  unfold zUL
  rw [zPf_congr hP s (fun r hr => h r (by omega)), (h s (by omega)).1, (h s (by omega)).2]
section
variable {N N1 : Int → Int} {nI nL : Nat}
theorem mDed_c (h : zSame N N1) (hn : nI ≤ 30) (o t : Int) : mDed N1 nI o t = mDed N nI o t := zPs_congr (fun i a b f c d => h _ (by omega) (by omega)) o t 0
theorem mTax_c (h : zSame N N1) (hn : nI ≤ 30) (o t : Int) : mTax N1 nI o t = mTax N nI o t := zPs_congr (fun i a b f c d => h _ (by omega) (by omega)) o t 1
theorem mP0_c (h : zSame N N1) (hn : nL ≤ 10) (o : Int) : mP0 N1 nL o = mP0 N nL o := by
  funext l
  unfold mP0
  rw [h 0 (by omega) (by omega)]
  exact zL0_congr (fun i a b f c d => h _ (by omega) (by omega)) o _ l
theorem mCov_c (h : zSame N N1) (hn : nI ≤ 30) {o yr more t : Int} (g0 : 0 ≤ o) (g1 : o < 3) (h0 : 0 ≤ t) (h1 : t < 40) : mCov N1 nI o yr more t = mCov N nI o yr more t := by
  unfold mCov
  rw [mTax_c h hn, h _ (by omega) (by omega)]
theorem mU_c (h : zSame N N1) (hW : mW N nI nL) {o yr more : Int} (g0 : 0 ≤ o) (g1 : o < 3) {r : Nat} (hr : N 0 + 1 + r < 40) : mU N1 nI nL o yr more (N 0 + 1 + r) = mU N nI nL o yr more (N 0 + 1 + r) := by
  obtain ⟨w0, w1, w2, w3, w4, w5, w6, w7, w8, w9⟩ := hW
  have e0 := h 0 (by omega) (by omega)
  have g := mU_at (N := N1) (nI := nI) (nL := nL) (o := o) (yr := yr) (more := more) (r := r)
  rw [e0] at g
  rw [g, mU_at, mDed_c h w4, mCov_c h w4 g0 g1 (by omega) (by omega), h 1 (by omega) (by omega)]
  congr 1
  exact zUL_congr (mP0_c h w6 o) r (fun q hq => ⟨mDed_c h w4 o _, mCov_c h w4 g0 g1 (by omega) (by omega)⟩)
theorem mLi_c (h : zSame N N1) (hW : mW N nI nL) {o : Int} (g0 : 0 ≤ o) (g1 : o < 3) : mLi N1 nI o = mLi N nI o := by
  obtain ⟨w0, w1, w2, w3, w4, w5, w6, w7, w8, w9⟩ := hW
  unfold mLi
  rw [h 0 (by omega) (by omega)]
  refine zS_congr _ (fun i a b => ?_)
  rw [mTax_c h w4, h _ (by omega) (by omega)]
theorem mAs_c (h : zSame N N1) (hW : mW N nI nL) {o yr more : Int} (g0 : 0 ≤ o) (g1 : o < 3) : mAs N1 nI nL o yr more = mAs N nI nL o yr more := by
  have w0 := hW.1
  unfold mAs
  rw [h 0 (by omega) (by omega)]
  refine zS_congr _ (fun i a b => ?_)
  have g := mU_c h hW (yr := yr) (more := more) g0 g1 (r := i.toNat) (by omega)
  rw [Int.toNat_of_nonneg a] at g
  rw [g, h _ (by omega) (by omega)]
theorem mUn_c (h : zSame N N1) (hW : mW N nI nL) {o yr more : Int} (g0 : 0 ≤ o) (g1 : o < 3) : mUn N1 nI nL o yr more = mUn N nI nL o yr more := by
  obtain ⟨w0, w1, w2, w3, w4, w5, w6, w7, w8, w9⟩ := id hW
  unfold mUn mUa mUb
  rw [h 0 (by omega) (by omega)]
  congr 1
  · congr 1
    · refine zS_congr _ (fun i a b => ?_)
      have e : ∀ f : Int, 0 ≤ f → f < 5 → mIt N1 i f = mIt N i f := fun f c d => h _ (by omega) (by omega)
      rw [e 0 (by omega) (by omega), e 1 (by omega) (by omega)]
      unfold zOpen
      rw [zUp_congr e, e 2 (by omega) (by omega)]
    · refine zS_congr _ (fun i a b => ?_)
      have e : ∀ f : Int, 0 ≤ f → f < 4 → mLo N1 i f = mLo N i f := fun f c d => h _ (by omega) (by omega)
      rw [e 0 (by omega) (by omega), e 2 (by omega) (by omega), e 3 (by omega) (by omega)]
  · refine zS_congr _ (fun i a b => ?_)
    have g := mU_c h hW (yr := yr) (more := more) g0 g1 (r := i.toNat) (by omega)
    rw [Int.toNat_of_nonneg a] at g
    exact g
theorem mW_c (h : zSame N N1) (hW : mW N nI nL) : mW N1 nI nL := by
  obtain ⟨w0, w1, w2, w3, w4, w5, w6, w7, w8, w9⟩ := hW
  refine ⟨by rw [h 0 (by omega) (by omega)]; exact w0, by rw [h 1 (by omega) (by omega)]; exact w1, by rw [h 2 (by omega) (by omega)]; exact w2, by rw [h 3 (by omega) (by omega)]; exact w3, w4, by rw [h 4 (by omega) (by omega)]; exact w5, w6, fun o' y' a b c d => ?_, fun i a b => ?_, fun i a b => ?_⟩
  · rw [h _ (by omega) (by omega), h _ (by omega) (by omega)]; exact w7 o' y' a b c d
  · have := w8 i a b
    simp only [wI, mIt] at this ⊢
    rw [h _ (by omega) (by omega), h _ (by omega) (by omega), h _ (by omega) (by omega), h _ (by omega) (by omega), h _ (by omega) (by omega)]
    exact this
  · have := w9 i a b
    simp only [wL, mLo] at this ⊢
    rw [h _ (by omega) (by omega), h _ (by omega) (by omega), h _ (by omega) (by omega), h _ (by omega) (by omega)]
    exact this
/-- a swept heap with other closings -/
theorem zSw_re {A0 A1 : zAI} {o yr more : Int} {s : Nat} (hW : mW (A0 111) nI nL) (g0 : 0 ≤ o) (g1 : o < 3) (hs : A0 111 0 + 1 + s ≤ 40) (h : zSwI A0 A1 (mDed (A0 111) nI o) (mCov (A0 111) nI o yr more) (mTax (A0 111) nI o) (A0 111 1) (mP0 (A0 111) nL o) (A0 111 0 + 1) s) (hN : zSame (A0 111) N1) :
    zSwI (zrow A0 111 N1) (zrow A1 111 N1) (mDed N1 nI o) (mCov N1 nI o yr more) (mTax N1 nI o) (N1 1) (mP0 N1 nL o) (N1 0 + 1) s := by
  obtain ⟨w0, w1, w2, w3, w4, w5, w6, w7, w8, w9⟩ := hW
  obtain ⟨i1, i2, i3, i4, i5, i6⟩ := h
  rw [hN 0 (by omega) (by omega), hN 1 (by omega) (by omega), mP0_c hN w6]
  have hc : ∀ r : Nat, r < s → mDed N1 nI o (A0 111 0 + 1 + r) = mDed (A0 111) nI o (A0 111 0 + 1 + r) ∧ mCov N1 nI o yr more (A0 111 0 + 1 + r) = mCov (A0 111) nI o yr more (A0 111 0 + 1 + r) := fun r hr => ⟨mDed_c hN w4 o _, mCov_c hN w4 g0 g1 (by omega) (by omega)⟩
  refine ⟨fun a ha => ?_, ?_, ?_, ?_, ?_, ?_⟩
  · by_cases e : a = 111
    · rw [e, zrow_eqF, zrow_eqF]
    · rw [zrow_neF e, zrow_neF e]; exact i1 a ha
  · rw [zrow_neF (by decide)]; exact i2
  · rw [zrow_neF (by decide)]; exact i3
  · rw [zrow_neF (by decide)]; exact i4
  · rw [zrow_neF (by decide), zrow_neF (by decide), zPf_congr rfl s hc]; exact i5
  · intro r hr
    rw [zrow_neF (by decide), zrow_neF (by decide), zrow_neF (by decide), zrow_neF (by decide), zrow_neF (by decide), zrow_neF (by decide)]
    obtain ⟨c8, c9, c10, c11, c12, c13⟩ := i6 r hr
    have hcr : ∀ q : Nat, q ≤ r → mDed N1 nI o (A0 111 0 + 1 + q) = mDed (A0 111) nI o (A0 111 0 + 1 + q) ∧ mCov N1 nI o yr more (A0 111 0 + 1 + q) = mCov (A0 111) nI o yr more (A0 111 0 + 1 + q) := fun q hq => hc q (by omega)
    have hb : zBH (mDed N1 nI o) (mCov N1 nI o yr more) (A0 111 1) (mP0 (A0 111) nL o) (A0 111 0 + 1) r = zBH (mDed (A0 111) nI o) (mCov (A0 111) nI o yr more) (A0 111 1) (mP0 (A0 111) nL o) (A0 111 0 + 1) r := by
      unfold zBH
      rw [zPf_congr rfl r (fun q hq => hcr q (by omega))]
      unfold zP2
      rw [(hcr r (by omega)).1, (hcr r (by omega)).2]
    rw [mTax_c hN w4, (hc r hr).1, (hc r hr).2, zUL_congr rfl r hcr, hb]
    exact ⟨c8, c9, c10, c11, c12, c13⟩
end
