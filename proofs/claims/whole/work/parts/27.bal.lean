/-! what is there by last years grows with the last year, and is not negative -/
def zMo (P : Int → Int) (t : Int) : Prop := (∀ l, t ≤ l → 0 ≤ P l) ∧ ∀ l l', t ≤ l → l ≤ l' → P l ≤ P l'
theorem zP2_mo {ded cov P : Int → Int} {c t : Int} (h : zMo P t) (hd : 0 ≤ ded t) : zMo (zP2 ded cov c P t) t := by
  refine ⟨fun l hl => ?_, fun l l' h1 h2 => ?_⟩
  · have h1 := h.1 l hl
    unfold zP2
    split <;> omega
  · have h3 := h.2 l l' h1 h2
    unfold zP2
    by_cases q : t + c ≤ l
    · rw [if_pos q, if_pos (by omega)]; omega
    · rw [if_neg q]; split <;> omega
theorem zPf_mo {ded cov P0 : Int → Int} {c t0 : Int} (h : zMo P0 t0) : ∀ s : Nat, (∀ r : Nat, r < s → 0 ≤ ded (t0 + r)) → zMo (zPf ded cov c P0 t0 s) (t0 + s)
  | 0, _ => by
    have e : t0 + ((0 : Nat) : Int) = t0 := by omega
    rw [e]; exact h
  | s + 1, hd => by
    have ih := zP2_mo (cov := cov) (c := c) (zPf_mo (cov := cov) (c := c) h s (fun r hr => hd r (by omega))) (hd s (by omega))
    refine ⟨fun l hl => ?_, fun l l' h1 h2 => ?_⟩
    · have := ih.2 (t0 + s) l (by omega) (by omega)
      show 0 ≤ zP2 _ _ _ _ _ l - zP2 _ _ _ _ _ (t0 + s)
      omega
    · have := ih.2 l l' (by omega) h2
      show zP2 _ _ _ _ _ l - zP2 _ _ _ _ _ (t0 + s) ≤ zP2 _ _ _ _ _ l' - zP2 _ _ _ _ _ (t0 + s)
      omega
theorem zL0_mo {lo : Int → Int → Int} {nL : Nat} (h : ∀ k : Int, 0 ≤ k → k < nL → wL lo k) (o t : Int) : zMo (zL0 lo nL o t) t := by
  refine ⟨fun l hl => zS_nn nL (fun i h0 h1 => ?_), fun l l' h1 h2 => zS_le nL (fun i h0 g1 => ?_)⟩
  · have := (h i h0 h1).2.2.2
    split <;> omega
  · have := (h i h0 g1).2.2.2
    by_cases q : lo i 0 = o ∧ t ≤ lo i 2 ∧ lo i 2 ≤ l
    · rw [if_pos q, if_pos ⟨q.1, q.2.1, by omega⟩]; omega
    · rw [if_neg q]; split <;> omega
theorem zUL_b {ded cov P0 : Int → Int} {c t0 : Int} {s : Nat} (h : zMo P0 t0) (hd : ∀ r : Nat, r ≤ s → 0 ≤ ded (t0 + r)) (h59 : t0 + s ≤ 59) (hc : 0 ≤ cov (t0 + s)) : 0 ≤ zUL ded cov c P0 t0 s ∧ min (ded (t0 + s)) (cov (t0 + s)) + zUL ded cov c P0 t0 s ≤ cov (t0 + s) := by
  have h1 := (zPf_mo (cov := cov) (c := c) h s (fun r hr => hd r (by omega))).1 59 h59
  have h2 := hd s (by omega)
  unfold zUL
  omega
/-- what is used in year t, of deductions and of losses -/
def mU (N : Int → Int) (nI nL : Nat) (o yr more t : Int) : Int := min (mDed N nI o t) (mCov N nI o yr more t) + zUL (mDed N nI o) (mCov N nI o yr more) (N 1) (mP0 N nL o) (N 0 + 1) (t - (N 0 + 1)).toNat
def mLi (N : Int → Int) (nI : Nat) (o : Int) : Int := zS (fun i => mTax N nI o (N 0 + 1 + i) * N (5 + 40 * o + (N 0 + 1 + i)) / 1000) (39 - N 0).toNat
def mAs (N : Int → Int) (nI nL : Nat) (o yr more : Int) : Int := zS (fun i => mU N nI nL o yr more (N 0 + 1 + i) * N (5 + 40 * o + (N 0 + 1 + i)) / 1000) (39 - N 0).toNat
def mUa (N : Int → Int) (nI : Nat) (o : Int) : Int := zS (fun i => if mIt N i 0 = o ∧ mIt N i 1 = 0 then zOpen (mIt N) (N 0) i else 0) nI
def mUb (N : Int → Int) (nL : Nat) (o : Int) : Int := zS (fun l => if mLo N l 0 = o ∧ N 0 < mLo N l 2 then mLo N l 3 else 0) nL
def mUn (N : Int → Int) (nI nL : Nat) (o yr more : Int) : Int := mUa N nI o + mUb N nL o - zS (fun i => mU N nI nL o yr more (N 0 + 1 + i)) (39 - N 0).toNat
theorem mU_at {N : Int → Int} {nI nL : Nat} {o yr more : Int} {r : Nat} : mU N nI nL o yr more (N 0 + 1 + r) = min (mDed N nI o (N 0 + 1 + r)) (mCov N nI o yr more (N 0 + 1 + r)) + zUL (mDed N nI o) (mCov N nI o yr more) (N 1) (mP0 N nL o) (N 0 + 1) r := by
  unfold mU
  rw [show (N 0 + 1 + (r : Int) - (N 0 + 1)).toNat = r by omega]
theorem mP0_mo {N : Int → Int} {nI nL : Nat} (hW : mW N nI nL) (o : Int) : zMo (mP0 N nL o) (N 0 + 1) := zL0_mo hW.2.2.2.2.2.2.2.2.2 o (N 0 + 1)
theorem mCov_b {N : Int → Int} {nI nL : Nat} (hW : mW N nI nL) {o yr more t : Int} (g0 : 0 ≤ o) (g1 : o < 3) (g2 : 0 ≤ more) (g3 : more ≤ 99999) (h0 : 0 ≤ t) (h1 : t < 40) : 0 ≤ mCov N nI o yr more t ∧ mCov N nI o yr more t ≤ 3199968 := by
  have a1 := mTax_b hW o t
  have a2 := (hW.2.2.2.2.2.2.2.1 o t g0 g1 h0 h1).2
  unfold mCov
  split <;> omega
theorem mU_b {N : Int → Int} {nI nL : Nat} (hW : mW N nI nL) {o yr more : Int} {r : Nat} (g0 : 0 ≤ o) (g1 : o < 3) (g2 : 0 ≤ more) (g3 : more ≤ 99999) (hr : N 0 + 1 + r < 40) : 0 ≤ mU N nI nL o yr more (N 0 + 1 + r) ∧ mU N nI nL o yr more (N 0 + 1 + r) ≤ mCov N nI o yr more (N 0 + 1 + r) ∧ 0 ≤ zUL (mDed N nI o) (mCov N nI o yr more) (N 1) (mP0 N nL o) (N 0 + 1) r := by
  have hn := hW.1
  have a1 := mCov_b hW (yr := yr) (t := N 0 + 1 + r) g0 g1 g2 g3 (by omega) hr
  have a2 := zUL_b (cov := mCov N nI o yr more) (c := N 1) (s := r) (mP0_mo hW o) (fun r _ => (mDed_b hW o (N 0 + 1 + r)).1) (by omega) a1.1
  have a3 := mDed_b hW o (N 0 + 1 + r)
  rw [mU_at]
  refine ⟨?_, a2.2, a2.1⟩
  omega
theorem ztx_b {a r A : Int} (h0 : 0 ≤ a) (h1 : a ≤ A) (h2 : 0 ≤ r) (h3 : r ≤ 900) (hA : A ≤ 4000000) : 0 ≤ a * r / 1000 ∧ a * r / 1000 ≤ 3600000 := by
  have hm := zmulb h0 (show a ≤ 4000000 by omega) h2 h3
  omega
/-- an office's sums -/
def mBal (N : Int → Int) (nI nL : Nat) (o what : Int) : Int := if what = 0 then mLi N nI o else if what = 1 then mAs N nI nL o (-1) 0 else if what = 2 then mUn N nI nL o (-1) 0 else mAs N nI nL o (-1) 0 - mLi N nI o
def zFr (A0 A1 : zAI) : Prop := ∀ a, a < 116 ∨ 123 < a → A1 a = A0 a
