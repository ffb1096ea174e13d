theorem zPart_0 {it : Int → Int → Int} {i t : Int} (h : wI it i) (ht : it i 4 < t) : zPart it i t = 0 := by
  obtain ⟨-, -, -, h3, h4, h5⟩ := h
  unfold zPart zUp
  rw [if_neg (by omega), if_pos (by omega), if_neg (by omega), if_pos (by omega)]
  omega
theorem zmap_ext {AI : zAI} {s : Nat} {lo hi hi' : Int} {f : Int → Int} (h : hi ≤ hi') (e : ∀ j : Int, hi ≤ j → j < hi' → lo ≤ j → f j = AI s j) : zmap AI s lo hi f = zmap AI s lo hi' f := by
  funext a j
  by_cases ha : a = s
  · subst ha
    by_cases c1 : lo ≤ j ∧ j < hi
    · rw [zmap_in c1, zmap_in (by omega)]
    · rw [zmap_out (by omega)]
      by_cases c2 : lo ≤ j ∧ j < hi'
      · rw [zmap_in c2, e j (by omega) (by omega) (by omega)]
      · rw [zmap_out (by omega)]
  · rw [zmap_ne ha, zmap_ne ha]
/-- what stays -/
def cFr (AI A : zAI) (FI F : zFI) : Prop := (∀ a, a < 6 ∨ 13 < a → A a = AI a) ∧ ∀ o j, o ≠ 5 ∨ j < 8 → F o j = FI o j
theorem cFr.rfl {AI : zAI} {FI : zFI} : cFr AI AI FI FI := ⟨fun _ _ => Eq.refl _, fun _ _ _ => Eq.refl _⟩
theorem cFr.trans {A0 A1 A2 : zAI} {F0 F1 F2 : zFI} (h : cFr A0 A1 F0 F1) (g : cFr A1 A2 F1 F2) : cFr A0 A2 F0 F2 := ⟨fun a b => (g.1 a b).trans (h.1 a b), fun o j a => (g.2 o j a).trans (h.2 o j a)⟩
theorem cFr.bk {AI A : zAI} {FI F : zFI} {B : Nat} {N : Int → Int} (h : cFr AI A FI F) (k : bk FI AI B N) (hB : 14 ≤ B) : bk F A B N := bk_fr k (fun j _ _ => h.2 B j (Or.inl (by omega))) (fun a _ _ => h.1 a (by omega))
def cB (A : zAI) (N : Int → Int) (j : Nat) (o : Int) : Prop := ∀ t : Int, 0 ≤ t → t < 40 → A 6 t = (if N 0 < t then mTax N j o t else 0) ∧ A 8 t = (if N 0 < t then mDed N j o t else 0) ∧ A 12 t = N (5 + 40 * o + t) ∧ (t ≤ N 0 → A 10 t = 0)
/-- the cover's answers -/
def cV (A : zAI) (F : zFI) (N : Int → Int) (nI nL : Nat) (o my more : Int) : Prop := cB A N nI o ∧ (∀ t : Int, N 0 < t → t < 40 → A 7 t = mCov N nI o my more t ∧ A 9 t = min (mDed N nI o t) (mCov N nI o my more t) ∧ A 10 t = mU N nI nL o my more t ∧ A 11 t = zBH (mDed N nI o) (mCov N nI o my more) (N 1) (mP0 N nL o) (N 0 + 1) (t - (N 0 + 1)).toNat) ∧ F 5 9 = mUn N nI nL o my more
theorem mP0_Ub {N : Int → Int} {nI nL : Nat} (hW : mW N nI nL) (o : Int) : mP0 N nL o 59 = mUb N nL o := by
  unfold mP0 mUb zL0
  refine zS_congr nL (fun i a b => ?_)
  have w : mLo N i 2 ≤ 39 := (hW.2.2.2.2.2.2.2.2.2 i a b).2.2.1.2
  by_cases c : mLo N i 0 = o ∧ N 0 < mLo N i 2
  · rw [if_pos c, if_pos ⟨c.1, by omega, by omega⟩]
  · rw [if_neg c, if_neg (by omega)]
theorem cV_of {A0 A : zAI} {F0 F : zFI} {N : Int → Int} {nI nL s : Nat} {o my more : Int} (hW : mW N nI nL) (hs : N 0 + 1 + s = 40) (hB : cB A0 N nI o) (h : cIv A0 A F0 F (mDed N nI o) (mCov N nI o my more) (N 1) (mP0 N nL o) (N 0 + 1) s) : cV A F N nI nL o my more ∧ cFr A0 A F0 F := by
  obtain ⟨i1, i2, i3, i4, i5, i6, i7, i8⟩ := h
  refine ⟨⟨fun t a b => ?_, fun t a b => ?_, ?_⟩, fun a ha => i1 a (by omega), i2⟩
  · have q := hB t a b
    rw [i1 6 (by decide), i1 8 (by decide), i1 12 (by decide)]
    exact ⟨q.1, q.2.1, q.2.2.1, fun z => by rw [i7 t (by omega)]; exact q.2.2.2 z⟩
  · obtain ⟨c1, c2, c3, c4⟩ := i6 (t - (N 0 + 1)).toNat (by omega)
    rw [show N 0 + 1 + ((t - (N 0 + 1)).toNat : Int) = t by omega] at c1 c2 c3 c4
    exact ⟨c1, c2, c3, c4⟩
  · rw [i8, zS_sub, mP0_Ub hW]
    have e := mDed_sum hW o
    rw [show (39 - N 0).toNat = s by omega] at e
    rw [e]
    unfold mUn
    rw [show (39 - N 0).toNat = s by omega]
    have e2 : zS (fun i => min (mDed N nI o (N 0 + 1 + i)) (mCov N nI o my more (N 0 + 1 + i)) + zUL (mDed N nI o) (mCov N nI o my more) (N 1) (mP0 N nL o) (N 0 + 1) i.toNat) s = zS (fun i => mU N nI nL o my more (N 0 + 1 + i)) s := zS_congr s (fun i a b => by
      unfold mU
      rw [show N 0 + 1 + i - (N 0 + 1) = i by omega])
    rw [e2]
    omega
/-- sums of forty years of which only those to come count -/
theorem zS_tail {f g : Int → Int} {y : Int} (hy : 0 ≤ y) (hy2 : y ≤ 39) (h0 : ∀ t : Int, 0 ≤ t → t ≤ y → f t = 0) (h1 : ∀ t : Int, y < t → t < 40 → f t = g t) : zS f 40 = zS (fun i => g (y + 1 + i)) (39 - y).toNat := by
  have s := zbk_split (L := f) (t := 0) (m := y) (by omega) (39 - y).toNat
  rw [show y + ((39 - y).toNat : Int) = 39 by omega] at s
  have e1 : zbk f 0 39 = zS f 40 := by
    unfold zbk
    exact zS_congr 40 (fun i a b => by rw [show (0 : Int) + i = i by omega])
  have e2 : zbk f 0 y = 0 := by
    unfold zbk
    rw [zS_congr (g := fun _ => 0) _ (fun i a b => h0 _ (by omega) (by omega)), zS_zero]
  have e3 : zbk f (y + 1) 39 = zS (fun i => g (y + 1 + i)) (39 - y).toNat := by
    unfold zbk
    rw [show (39 + 1 - (y + 1)).toNat = (39 - y).toNat by omega]
    exact zS_congr _ (fun i a b => h1 _ (by omega) (by omega))
  omega
