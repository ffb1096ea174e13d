/-! THE ANSWERS, as pure functions of the reference's row -/
theorem zpost {Post : zPost} {T : zTt} {FR : zFR} {AR : zAR} {FI : zFI} {AI : zAI} {a b : Int} (e : a = b) (h : Post (zI a) T FR AR FI AI) : Post (zI b) T FR AR FI AI := e ▸ h
/-- what stays: all but the scratch rows of the reference -/
def zFr2 (A0 A1 : zAI) : Prop := ∀ a, a < 116 ∨ 124 < a → A1 a = A0 a
theorem zFr.two {A0 A1 : zAI} (h : zFr A0 A1) : zFr2 A0 A1 := fun a ha => h a (by omega)
theorem zFr2.trans {A0 A1 A2 : zAI} (h : zFr2 A0 A1) (g : zFr2 A1 A2) : zFr2 A0 A2 := fun a ha => (g a ha).trans (h a ha)
theorem zFr2.rfl {A0 : zAI} : zFr2 A0 A0 := fun _ _ => Eq.refl _
def mDone (N : Int → Int) (nI : Nat) : Int := zS (fun i => if zOpen (mIt N) (N 0) i = 0 then 1 else 0) nI
def aNow (N : Int → Int) (nI : Nat) (q tp what : Int) : Int := if 0 ≤ what ∧ what ≤ 4 then N what else if what = 5 then mDone N nI else if what = 6 then q else if what = 7 then tp else -1
def okItem (N : Int → Int) (i what : Int) : Prop := (0 ≤ i ∧ i ≤ N 3 - 1) ∧ ((0 ≤ what ∧ what ≤ 5) ∨ (100 ≤ what ∧ what ≤ 139))
def aItem (N : Int → Int) (i what : Int) : Int := if what < 5 then mIt N i what else if what = 5 then zOpen (mIt N) (N 0) i else zPart (mIt N) i (what - 100)
def okLoss (N : Int → Int) (i what : Int) : Prop := (0 ≤ i ∧ i ≤ N 4 - 1) ∧ (0 ≤ what ∧ what ≤ 3)
def aRate (N : Int → Int) (o y : Int) : Int := if (0 ≤ o ∧ o ≤ N 2 - 1) ∧ (0 ≤ y ∧ y ≤ 39) then N (5 + 40 * o + y) else -1
def aCov (N : Int → Int) (nI nL : Nat) (o y what : Int) : Int := if (0 ≤ o ∧ o ≤ N 2 - 1) ∧ (N 0 + 1 ≤ y ∧ y ≤ 39) ∧ (0 ≤ what ∧ what ≤ 5) then
    (if what = 0 then mTax N nI o y else if what = 1 then mCov N nI o (-1) 0 y else if what = 2 then mDed N nI o y else if what = 3 then min (mDed N nI o y) (mCov N nI o (-1) 0 y) else if what = 4 then zUL (mDed N nI o) (mCov N nI o (-1) 0) (N 1) (mP0 N nL o) (N 0 + 1) (y - (N 0 + 1)).toNat else zBH (mDed N nI o) (mCov N nI o (-1) 0) (N 1) (mP0 N nL o) (N 0 + 1) (y - (N 0 + 1)).toNat)
  else -1
def gBal (what v : Int) : Int := if what < 3 then v else if what = 3 then (if 0 < v then v else 0) else (if v < 0 then -v else 0)
def aBal (N : Int → Int) (nI nL : Nat) (o what : Int) : Int := if o = -1 then (if 0 ≤ what ∧ what ≤ 4 then zS (fun k => gBal what (mBal N nI nL k (if what < 3 then what else 3))) (N 2).toNat else -100000000) else if (0 ≤ o ∧ o ≤ N 2 - 1) ∧ (0 ≤ what ∧ what ≤ 3) then mBal N nI nL o what else -100000000
def aClo (N : Int → Int) (o y what : Int) : Int := if (0 ≤ o ∧ o ≤ N 2 - 1) ∧ (0 ≤ y ∧ y ≤ N 0 - 1) ∧ (0 ≤ what ∧ what ≤ 6) then (if what < 5 then N (435 + 240 * o + 6 * y + what) else if what = 5 then N (435 + 240 * o + 6 * y + 3) - N (435 + 240 * o + 6 * y + 4) else N (435 + 240 * o + 6 * y + 5)) else -100000000
def okEn (N : Int → Int) (o y r : Int) : Prop := (0 ≤ o ∧ o ≤ N 2 - 1) ∧ (N 0 ≤ y ∧ y ≤ 39) ∧ (0 ≤ r ∧ r ≤ 900)
/-- a part of a row is filled -/
def zfl (N : Int → Int) (lo hi v : Int) : Int → Int := fun j => if lo ≤ j ∧ j < hi then v else N j
theorem zfill_eqF {AI : zAI} {a : Nat} {lo hi v : Int} : zfill AI a lo hi v a = zfl (AI a) lo hi v := by
  funext j
  simp only [zfill, zfl, true_and]
theorem zfill_neF {AI : zAI} {a a' : Nat} {lo hi v : Int} (h : a' ≠ a) : zfill AI a lo hi v a' = AI a' := funext fun _ => if_neg (fun z => h z.1)
theorem zmap_neF {AI : zAI} {a a' : Nat} {lo hi : Int} {f : Int → Int} (h : a' ≠ a) : zmap AI a lo hi f a' = AI a' := funext fun _ => if_neg (fun z => h z.1)
theorem mW_rate {N : Int → Int} {nI nL : Nat} (hW : mW N nI nL) {o y r : Int} (h0 : 0 ≤ o) (h1 : o < 3) (h2 : 0 ≤ y) (g0 : 0 ≤ r) (g1 : r ≤ 900) : mW (zfl N (5 + 40 * o + y) (5 + 40 * o + 40) r) nI nL := by
  have e : ∀ j, (j < 5 ∨ 125 ≤ j) → zfl N (5 + 40 * o + y) (5 + 40 * o + 40) r j = N j := fun j hj => if_neg (by omega)
  obtain ⟨w0, w1, w2, w3, w4, w5, w6, w7, w8, w9⟩ := hW
  refine ⟨by rw [e 0 (by omega)]; exact w0, by rw [e 1 (by omega)]; exact w1, by rw [e 2 (by omega)]; exact w2, by rw [e 3 (by omega)]; exact w3, w4, by rw [e 4 (by omega)]; exact w5, w6, fun o' y' a b c d => ⟨?_, ?_⟩, fun i a b => ?_, fun i a b => ?_⟩
  · have := (w7 o' y' a b c d).1
    unfold zfl
    split <;> omega
  · rw [e _ (by omega)]; exact (w7 o' y' a b c d).2
  · have := w8 i a b
    simp only [wI, mIt] at this ⊢
    rw [e _ (by omega), e _ (by omega), e _ (by omega), e _ (by omega), e _ (by omega)]
    exact this
  · have := w9 i a b
    simp only [wL, mLo] at this ⊢
    rw [e _ (by omega), e _ (by omega), e _ (by omega), e _ (by omega)]
    exact this
