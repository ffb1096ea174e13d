theorem zbk_term {L : Int → Int} {t l j : Int} (h : ∀ j : Int, t ≤ j → j ≤ l → 0 ≤ L j) (h0 : t ≤ j) (h1 : j ≤ l) : L j ≤ zbk L t l := by
  have q := zS_term (f := fun i => L (t + i)) (l + 1 - t).toNat (fun i a b => h _ (by omega) (by omega)) (j - t) (by omega) (by omega)
  rw [show t + (j - t) = j by omega] at q
  exact q
theorem zPf_ub {ded cov P0 : Int → Int} {c t0 K : Int} (hm : zMo P0 t0) (hP : ∀ l : Int, t0 ≤ l → l ≤ 59 → P0 l ≤ K) : ∀ s : Nat, (∀ r : Nat, r < s → 0 ≤ ded (t0 + r) ∧ ded (t0 + r) ≤ 3000000 ∧ 0 ≤ cov (t0 + r)) → ∀ l : Int, t0 + s ≤ l → l ≤ 59 → zPf ded cov c P0 t0 s l ≤ K + 3000000 * s
  | 0, _, l, a, b => by
    have := hP l (by omega) b
    show P0 l ≤ _
    omega
  | s + 1, hd, l, a, b => by
    have ih := zPf_ub (ded := ded) (cov := cov) (c := c) hm hP s (fun r hr => hd r (by omega)) l (by omega) b
    have mo := zPf_mo (ded := ded) (cov := cov) (c := c) hm s (fun r hr => (hd r (by omega)).1)
    have m2 := (zP2_mo (cov := cov) (c := c) mo (hd s (by omega)).1).1 (t0 + s) (by omega)
    have p0 := mo.1 l (by omega)
    have d := hd s (by omega)
    have e : zP2 ded cov c (zPf ded cov c P0 t0 s) (t0 + s) l ≤ zPf ded cov c P0 t0 s l + 3000000 := by
      unfold zP2
      split <;> omega
    show zP2 ded cov c (zPf ded cov c P0 t0 s) (t0 + s) l - zP2 ded cov c (zPf ded cov c P0 t0 s) (t0 + s) (t0 + s) ≤ _
    omega
/-- the buckets as they are filled -/
def cLf (N : Int → Int) (nL : Nat) (o j : Int) : Int := if N 0 < j ∧ j < 40 then zS (fun l => if N (395 + 4 * l + 0) = o ∧ N (395 + 4 * l + 2) = j then N (395 + 4 * l + 3) else 0) nL else 0
theorem cLf_b {N : Int → Int} {nI nL : Nat} (hW : mW N nI nL) (o j : Int) : 0 ≤ cLf N nL o j ∧ cLf N nL o j ≤ 30000000 := by
  have w6 := hW.2.2.2.2.2.2.1
  have h : ∀ i : Int, 0 ≤ i → i < nL → 0 ≤ (if N (395 + 4 * i + 0) = o ∧ N (395 + 4 * i + 2) = j then N (395 + 4 * i + 3) else 0) ∧ (if N (395 + 4 * i + 0) = o ∧ N (395 + 4 * i + 2) = j then N (395 + 4 * i + 3) else 0) ≤ 3000000 := fun i a b => by
    obtain ⟨-, q1, q2, q3⟩ := hW.2.2.2.2.2.2.2.2.2 i a b
    simp only [mLo] at q1 q2 q3
    split <;> omega
  have h1 := zS_nn nL (fun i a b => (h i a b).1)
  have h2 := zS_ub nL (fun i a b => (h i a b).2)
  unfold cLf
  split <;> omega
theorem cLf_P0 {N : Int → Int} {nI nL : Nat} (hW : mW N nI nL) (o : Int) : ∀ l : Int, N 0 + 1 ≤ l → l ≤ 59 → zbk (cLf N nL o) (N 0 + 1) l = mP0 N nL o l := fun l a b => by
  have q := zL0_b hW (o := o) (t := N 0 + 1) (L := cLf N nL o) (fun j c d => by
    unfold cLf
    by_cases g : j < 40
    · rw [if_pos ⟨by omega, g⟩]
    · rw [if_neg (by omega)]
      rw [zS_congr (g := fun _ => 0) nL (fun i a b => if_neg (fun z => by
        have w : N (395 + 4 * i + 2) ≤ 39 := (hW.2.2.2.2.2.2.2.2.2 i a b).2.2.1.2
        omega)), zS_zero]) (l + 1 - (N 0 + 1)).toNat (by omega)
  rw [show N 0 + 1 + ((l + 1 - (N 0 + 1)).toNat : Int) - 1 = l by omega] at q
  exact q
theorem cLf_0 {N : Int → Int} {nI nL : Nat} (hW : mW N nI nL) (o : Int) : zbk (cLf N nL o) 0 59 = mP0 N nL o 59 := by
  have w0 := hW.1
  have s := zbk_split (L := cLf N nL o) (t := 0) (m := N 0) (by omega) (59 - N 0).toNat
  rw [show N 0 + ((59 - N 0).toNat : Int) = 59 by omega, cLf_P0 hW o 59 (by omega) (by omega)] at s
  have z : zbk (cLf N nL o) 0 (N 0) = 0 := by
    unfold zbk
    rw [zS_congr (g := fun _ => 0) _ (fun i a b => by unfold cLf; exact if_neg (by omega)), zS_zero]
  omega
theorem mP0_b {N : Int → Int} {nI nL : Nat} (hW : mW N nI nL) (o : Int) : ∀ l : Int, N 0 + 1 ≤ l → l ≤ 59 → mP0 N nL o l ≤ 30000000 := fun l a b => by
  have w6 := hW.2.2.2.2.2.2.1
  have h2 := zS_ub (f := fun k => if mLo N k 0 = o ∧ N 0 + 1 ≤ mLo N k 2 ∧ mLo N k 2 ≤ l then mLo N k 3 else 0) (c := 3000000) nL (fun i a b => by
    obtain ⟨-, q1, q2, q3⟩ := hW.2.2.2.2.2.2.2.2.2 i a b
    split <;> omega)
  unfold mP0 zL0
  omega
