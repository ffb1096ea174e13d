/-! MORE PROFIT NEVER RAISES WHAT IS UNRECOGNISED -/
/-- what has lapsed -/
def zLp (ded cov : Int → Int) (c : Int) (P0 : Int → Int) (t0 : Int) : Nat → Int
  | 0 => 0
  | s + 1 => zLp ded cov c P0 t0 s + zP2 ded cov c (zPf ded cov c P0 t0 s) (t0 + s) (t0 + s)
theorem zLp_nn {ded cov P0 : Int → Int} {c t0 : Int} (h : zMo P0 t0) : ∀ s : Nat, (∀ r : Nat, r < s → 0 ≤ ded (t0 + r)) → 0 ≤ zLp ded cov c P0 t0 s
  | 0, _ => Int.le_refl _
  | s + 1, hd => by
    have ih := zLp_nn (cov := cov) (c := c) h s (fun r hr => hd r (by omega))
    have mo := zPf_mo (cov := cov) (c := c) h s (fun r hr => hd r (by omega))
    have m2 := (zP2_mo (cov := cov) (c := c) mo (hd s (by omega))).1 (t0 + s) (by omega)
    show 0 ≤ zLp ded cov c P0 t0 s + zP2 ded cov c (zPf ded cov c P0 t0 s) (t0 + s) (t0 + s)
    omega
theorem zLp_sum {ded cov P0 : Int → Int} {c t0 : Int} (h : zMo P0 t0) (hc : c ≤ 20) : ∀ s : Nat, t0 + s ≤ 40 → (∀ r : Nat, r < s → 0 ≤ ded (t0 + r) ∧ 0 ≤ cov (t0 + r)) → zLp ded cov c P0 t0 s + zPf ded cov c P0 t0 s 59 = P0 59 + zS (fun i => ded (t0 + i) - (min (ded (t0 + i)) (cov (t0 + i)) + zUL ded cov c P0 t0 i.toNat)) s
  | 0, _, _ => by
    show (0 : Int) + P0 59 = P0 59 + 0
    omega
  | s + 1, hs, hd => by
    have ih := zLp_sum (c := c) h hc s (by omega) (fun r hr => hd r (by omega))
    have mo := (zPf_mo (cov := cov) (c := c) h s (fun r hr => (hd r (by omega)).1)).1 59 (by omega)
    have d := hd s (by omega)
    rw [zS_t rfl, Int.toNat_natCast]
    show zLp ded cov c P0 t0 s + zP2 ded cov c (zPf ded cov c P0 t0 s) (t0 + s) (t0 + s) + (zP2 ded cov c (zPf ded cov c P0 t0 s) (t0 + s) 59 - zP2 ded cov c (zPf ded cov c P0 t0 s) (t0 + s) (t0 + s)) = _
    have e : zP2 ded cov c (zPf ded cov c P0 t0 s) (t0 + s) 59 = zPf ded cov c P0 t0 s 59 + (ded (t0 + s) - (min (ded (t0 + s)) (cov (t0 + s)) + zUL ded cov c P0 t0 s)) := by
      unfold zP2 zUL
      rw [if_pos (by omega)]
      omega
    rw [e]
    omega
theorem zLp_mono {ded cov cov' P0 : Int → Int} {c t0 : Int} : ∀ s : Nat, (∀ r : Nat, r < s → cov (t0 + r) ≤ cov' (t0 + r)) → zLp ded cov' c P0 t0 s ≤ zLp ded cov c P0 t0 s ∧ ∀ l : Int, t0 + s ≤ l → zLp ded cov' c P0 t0 s + zPf ded cov' c P0 t0 s l ≤ zLp ded cov c P0 t0 s + zPf ded cov c P0 t0 s l
  | 0, _ => ⟨Int.le_refl _, fun _ _ => Int.le_refl _⟩
  | s + 1, h => by
    obtain ⟨i1, i2⟩ := zLp_mono (ded := ded) (P0 := P0) (c := c) s (fun r hr => h r (by omega))
    have hs := h s (by omega)
    have key : ∀ l : Int, t0 + s ≤ l → zLp ded cov' c P0 t0 s + zP2 ded cov' c (zPf ded cov' c P0 t0 s) (t0 + s) l ≤ zLp ded cov c P0 t0 s + zP2 ded cov c (zPf ded cov c P0 t0 s) (t0 + s) l := fun l hl => by
      have q := i2 l hl
      unfold zP2
      split <;> omega
    refine ⟨key (t0 + s) (by omega), fun l hl => ?_⟩
    have q := key l (by omega)
    show zLp ded cov' c P0 t0 s + zP2 ded cov' c (zPf ded cov' c P0 t0 s) (t0 + s) (t0 + s) + (zP2 ded cov' c (zPf ded cov' c P0 t0 s) (t0 + s) l - zP2 ded cov' c (zPf ded cov' c P0 t0 s) (t0 + s) (t0 + s)) ≤ zLp ded cov c P0 t0 s + zP2 ded cov c (zPf ded cov c P0 t0 s) (t0 + s) (t0 + s) + (zP2 ded cov c (zPf ded cov c P0 t0 s) (t0 + s) l - zP2 ded cov c (zPf ded cov c P0 t0 s) (t0 + s) (t0 + s))
    omega
theorem mUn_eq {N : Int → Int} {nI nL : Nat} (hW : mW N nI nL) {o yr more : Int} (g0 : 0 ≤ o) (g1 : o < 3) (g2 : 0 ≤ more) (g3 : more ≤ 99999) : mUn N nI nL o yr more = zLp (mDed N nI o) (mCov N nI o yr more) (N 1) (mP0 N nL o) (N 0 + 1) (39 - N 0).toNat + zPf (mDed N nI o) (mCov N nI o yr more) (N 1) (mP0 N nL o) (N 0 + 1) (39 - N 0).toNat 59 := by
  have w0 := hW.1
  have w1 := hW.2.1
  rw [zLp_sum (mP0_mo hW o) w1.2 _ (by omega) (fun r hr => ⟨(mDed_b hW o _).1, (mCov_b hW (yr := yr) g0 g1 g2 g3 (by omega) (by omega)).1⟩), zS_sub, mDed_sum hW, mP0_Ub hW]
  unfold mUn
  have e2 : zS (fun i => min (mDed N nI o (N 0 + 1 + i)) (mCov N nI o yr more (N 0 + 1 + i)) + zUL (mDed N nI o) (mCov N nI o yr more) (N 1) (mP0 N nL o) (N 0 + 1) i.toNat) (39 - N 0).toNat = zS (fun i => mU N nI nL o yr more (N 0 + 1 + i)) (39 - N 0).toNat := zS_congr _ (fun i a b => by
    unfold mU
    rw [show N 0 + 1 + i - (N 0 + 1) = i by omega])
  rw [e2]
  omega
theorem enough_mono {N : Int → Int} {nI nL : Nat} (hW : mW N nI nL) {o y m m' : Int} (g0 : 0 ≤ o) (g1 : o < 3) (g2 : 0 ≤ m) (h : m ≤ m') (g3 : m' ≤ 99999) (he : enough N nI nL o y m) : enough N nI nL o y m' := by
  have w0 := hW.1
  unfold enough at he ⊢
  rw [mUn_eq hW g0 g1 g2 (by omega)] at he
  rw [mUn_eq hW g0 g1 (by omega) g3]
  have q := (zLp_mono (ded := mDed N nI o) (cov := mCov N nI o y m) (cov' := mCov N nI o y m') (c := N 1) (P0 := mP0 N nL o) (t0 := N 0 + 1) (39 - N 0).toNat (fun r hr => by
    unfold mCov
    split <;> omega)).2 59 (by omega)
  have n1 := zLp_nn (cov := mCov N nI o y m') (c := N 1) (mP0_mo hW o) (39 - N 0).toNat (fun r hr => (mDed_b hW o _).1)
  have n2 := (zPf_mo (cov := mCov N nI o y m') (c := N 1) (mP0_mo hW o) (39 - N 0).toNat (fun r hr => (mDed_b hW o _).1)).1 59 (by omega)
  omega
/-- both searches end at one place -/
theorem least_uni {N : Int → Int} {nI nL : Nat} (hW : mW N nI nL) {o y r r' : Int} (g0 : 0 ≤ o) (g1 : o < 3) (h0 : 0 ≤ r) (h9 : r ≤ 99999) (h0' : 0 ≤ r') (h9' : r' ≤ 99999) (he : enough N nI nL o y r) (hl : r = 0 ∨ ¬ enough N nI nL o y (r - 1)) (he' : enough N nI nL o y r') (hl' : r' = 0 ∨ ¬ enough N nI nL o y (r' - 1)) : r = r' := by
  rcases (show r < r' ∨ r = r' ∨ r' < r by omega) with c | c | c
  · rcases hl' with z | z
    · omega
    · exact absurd (enough_mono hW g0 g1 h0 (by omega) (by omega) he) z
  · exact c
  · rcases hl with z | z
    · omega
    · exact absurd (enough_mono hW g0 g1 h0' (by omega) (by omega) he') z
