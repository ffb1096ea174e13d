theorem zsA_neF {AI : zAI} {a a' : Nat} {i x : Int} (h : a' ≠ a) : zsA AI a i x a' = AI a' := funext fun _ => if_neg (fun z => h z.1)
theorem zsA_eqF {AI : zAI} {a : Nat} {i x : Int} : zsA AI a i x a = zu1 (AI a) i x := by
  funext j
  simp only [zsA, zu1, true_and]
theorem zsA_zsA {AI : zAI} {a : Nat} {i x z : Int} : zsA (zsA AI a i x) a i z = zsA AI a i z := by
  funext a' j
  simp only [zsA]
  by_cases h : a' = a ∧ j = i
  · rw [if_pos h, if_pos h]
  · rw [if_neg h, if_neg h, if_neg h]
/-- the reference's row is as it should be -/
def mW (N : Int → Int) (nI nL : Nat) : Prop := (0 ≤ N 0 ∧ N 0 ≤ 39) ∧ (0 ≤ N 1 ∧ N 1 ≤ 20) ∧ (1 ≤ N 2 ∧ N 2 ≤ 3) ∧ N 3 = nI ∧ nI ≤ 30 ∧ N 4 = nL ∧ nL ≤ 10 ∧ (∀ o y : Int, 0 ≤ o → o < 3 → 0 ≤ y → y < 40 → (0 ≤ N (5 + 40 * o + y) ∧ N (5 + 40 * o + y) ≤ 900) ∧ (0 ≤ N (125 + 40 * o + y) ∧ N (125 + 40 * o + y) ≤ 99999)) ∧ (∀ i : Int, 0 ≤ i → i < nI → wI (mIt N) i) ∧ (∀ k : Int, 0 ≤ k → k < nL → wL (mLo N) k)
def mTax (N : Int → Int) (nI : Nat) (o t : Int) : Int := zPs (mIt N) nI o t 1
def mDed (N : Int → Int) (nI : Nat) (o t : Int) : Int := zPs (mIt N) nI o t 0
def mCov (N : Int → Int) (nI : Nat) (o yr more t : Int) : Int := mTax N nI o t + N (125 + 40 * o + t) + (if t = yr then more else 0)
def mP0 (N : Int → Int) (nL : Nat) (o l : Int) : Int := zL0 (mLo N) nL o (N 0 + 1) l
/-- the years from t0 on, swept up to t0 + s -/
def zSwI (A0 A1 : zAI) (ded cov tax : Int → Int) (c : Int) (P0 : Int → Int) (t0 : Int) (s : Nat) : Prop :=
  (∀ a, a < 116 ∨ 123 < a → A1 a = A0 a) ∧ (∀ k : Int, 0 ≤ k → k < 50 → 0 ≤ A1 116 k ∧ A1 116 k ≤ 3000000) ∧ (∀ k : Int, 0 ≤ k → k < 50 → A1 117 k ≤ 59) ∧
  (∀ k : Int, 10 + t0 + s ≤ k → k < 50 → A1 116 k = 0) ∧ (∀ l, t0 + s ≤ l → l ≤ 59 → zLs (A1 116) (A1 117) (t0 + s) l = zPf ded cov c P0 t0 s l) ∧
  (∀ r : Nat, r < s → A1 118 (t0 + r) = tax (t0 + r) ∧ A1 119 (t0 + r) = cov (t0 + r) ∧ A1 120 (t0 + r) = ded (t0 + r) ∧ A1 121 (t0 + r) = min (ded (t0 + r)) (cov (t0 + r)) ∧ A1 122 (t0 + r) = zUL ded cov c P0 t0 r ∧ A1 123 (t0 + r) = zBH ded cov c P0 t0 r)
theorem zSw_use {lf lf0 lp ded cov P0 : Int → Int} {c t0 : Int} {s : Nat} (h5 : ∀ l, t0 + s ≤ l → l ≤ 59 → zLs lf0 lp (t0 + s) l = zPf ded cov c P0 t0 s l) (hlp : ∀ k : Int, 0 ≤ k → k < 50 → lp k ≤ 59) (hnn : ∀ k : Int, 0 ≤ k → k < 50 → 0 ≤ lf0 k) (h39 : t0 + s ≤ 39)
    (hl : ∀ l, zLs lf lp (t0 + s) l = max 0 (zLs lf0 lp (t0 + s) l - min (cov (t0 + s) - min (ded (t0 + s)) (cov (t0 + s))) (zLs lf0 lp (t0 + s) 59))) (l : Int) (hts : t0 + s ≤ l) (hl59 : l ≤ 59) :
    zLs lf lp (t0 + s) l = max 0 (zPf ded cov c P0 t0 s l - (cov (t0 + s) - min (ded (t0 + s)) (cov (t0 + s)))) := by
  have hm := zLs_mono (lp := lp) hnn (t := t0 + s) hl59
  rw [hl l, ← h5 l hts hl59]
  rw [Int.min_def]
  split <;> omega
theorem zSw_step {A0 A1 A2 : zAI} {ded cov tax P0 lf : Int → Int} {c t0 : Int} {s : Nat} (h : zSwI A0 A1 ded cov tax c P0 t0 s) (h0 : 0 ≤ t0) (h39 : t0 + s ≤ 39) (hc0 : 0 ≤ c) (hc1 : c ≤ 20) (hd0 : 0 ≤ ded (t0 + s)) (hd1 : ded (t0 + s) ≤ 3000000) (hv0 : 0 ≤ cov (t0 + s))
    (hlf : ∀ k : Int, 0 ≤ k → k < 50 → 0 ≤ lf k ∧ lf k ≤ A1 116 k)
    (hl : ∀ l, zLs lf (A1 117) (t0 + s) l = max 0 (zLs (A1 116) (A1 117) (t0 + s) l - min (cov (t0 + s) - min (ded (t0 + s)) (cov (t0 + s))) (zLs (A1 116) (A1 117) (t0 + s) 59)))
    (r0 : ∀ a, a < 116 ∨ 123 < a → A2 a = A1 a) (r6 : A2 116 = zu1 lf (10 + (t0 + s)) (ded (t0 + s) - min (ded (t0 + s)) (cov (t0 + s)))) (r7 : A2 117 = zu1 (A1 117) (10 + (t0 + s)) (t0 + s + c))
    (r8 : A2 118 = zu1 (A1 118) (t0 + s) (tax (t0 + s))) (r9 : A2 119 = zu1 (A1 119) (t0 + s) (cov (t0 + s))) (r10 : A2 120 = zu1 (A1 120) (t0 + s) (ded (t0 + s))) (r11 : A2 121 = zu1 (A1 121) (t0 + s) (min (ded (t0 + s)) (cov (t0 + s)))) (r12 : A2 122 = zu1 (A1 122) (t0 + s) (min (cov (t0 + s) - min (ded (t0 + s)) (cov (t0 + s))) (zLs (A1 116) (A1 117) (t0 + s) 59)))
    (r13 : A2 123 = zu1 (A1 123) (t0 + s) (zS (fun k => if t0 + s < A2 117 k then A2 116 k else 0) 50)) : zSwI A0 A2 ded cov tax c P0 t0 (s + 1) := by
  obtain ⟨i1, i2, i3, i4, i5, i6⟩ := h
  have e1 : t0 + ((s + 1 : Nat) : Int) = t0 + s + 1 := by omega
  have hlz : lf (10 + (t0 + s)) = 0 := by
    have := hlf (10 + (t0 + s)) (by omega) (by omega)
    rw [i4 (10 + (t0 + s)) (by omega) (by omega)] at this
    omega
  -- what is there by last years, the further loss among it
  have key : ∀ l, t0 + s ≤ l → l ≤ 59 → zLs (A2 116) (A2 117) (t0 + s) l = zP2 ded cov c (zPf ded cov c P0 t0 s) (t0 + s) l := by
    intro l g1 g2
    rw [r6, r7, zLs_add (by omega) (by omega) hlz, zSw_use i5 i3 (fun k a b => (i2 k a b).1) h39 hl l g1 g2]
    unfold zP2
    by_cases q : t0 + s + c ≤ l
    · rw [if_pos ⟨by omega, q⟩, if_pos q]
    · rw [if_neg (fun z => q z.2), if_neg q]
  have hi3 : ∀ k : Int, 0 ≤ k → k < 50 → A2 117 k ≤ 59 := by
    intro k a b
    rw [r7]
    by_cases e : k = 10 + (t0 + s)
    · rw [e, zu1_eq]; omega
    · rw [zu1_ne e]; exact i3 k a b
  have hbh : zS (fun k => if t0 + s < A2 117 k then A2 116 k else 0) 50 = zLs (A2 116) (A2 117) (t0 + s + 1) 59 := by
    refine zS_congr 50 (fun k a b => ?_)
    have := hi3 k a b
    by_cases q : t0 + s < A2 117 k
    · rw [if_pos q, if_pos (by omega)]
    · rw [if_neg q, if_neg (by omega)]
  refine ⟨fun a ha => (r0 a ha).trans (i1 a ha), ?_, hi3, ?_, ?_, ?_⟩
  · intro k a b
    rw [r6]
    by_cases e : k = 10 + (t0 + s)
    · rw [e, zu1_eq]; omega
    · rw [zu1_ne e]
      have g1 := hlf k a b
      have g2 := i2 k a b
      omega
  · intro k a b
    have g1 := hlf k (by omega) b
    rw [r6, zu1_ne (by omega)]
    rw [i4 k (by omega) b] at g1
    omega
  · intro l g hl9
    rw [e1] at g ⊢
    rw [zLs_split (by omega)]
    show _ = zP2 ded cov c (zPf ded cov c P0 t0 s) (t0 + s) l - zP2 ded cov c (zPf ded cov c P0 t0 s) (t0 + s) (t0 + s)
    rw [key (t0 + s) (by omega) (by omega)]
    rw [key l (by omega) hl9]
  · intro r hr
    by_cases e : r = s
    · subst e
      rw [r8, r9, r10, r11, r12, r13, zu1_eq, zu1_eq, zu1_eq, zu1_eq, zu1_eq, zu1_eq]
      refine ⟨rfl, rfl, rfl, rfl, ?_, ?_⟩
      · rw [i5 59 (by omega) (by omega)]; rfl
      · rw [hbh, zLs_split (by omega), key 59 (by omega) (by omega), key (t0 + r) (by omega) (by omega)]; rfl
    · have g := i6 r (by omega)
      rw [r8, r9, r10, r11, r12, r13, zu1_ne (by omega), zu1_ne (by omega), zu1_ne (by omega), zu1_ne (by omega), zu1_ne (by omega), zu1_ne (by omega)]
      exact g
