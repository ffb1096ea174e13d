/-- the closings of the reference's row are within bounds -/
def mCl (N : Int → Int) : Prop := (∀ j : Int, 435 ≤ j → j < 1155 → -900000000 ≤ N j ∧ N j ≤ 900000000) ∧ ∀ j : Int, 1155 ≤ j → j < 1395 → 0 ≤ N j ∧ N j ≤ 4000000
def aWould (N : Int → Int) (nI nL : Nat) (o y r : Int) : Int := if (0 ≤ o ∧ o ≤ N 2 - 1) ∧ (N 0 ≤ y ∧ y ≤ 39) ∧ (0 ≤ r ∧ r ≤ 900) then mBal (zfl N (5 + 40 * o + y) (5 + 40 * o + 40) r) nI nL o 3 else -100000000
/-- so much more profit is enough -/
def enough (N : Int → Int) (nI nL : Nat) (o y more : Int) : Prop := mUn N nI nL o y more = 0
/-- ten rows are kept: one more on top -/
def zSnp (S N : Int → Int) (q : Int) (S' : Int → Int) (q' : Int) : Prop := (q' = if q = 10 then 9 else q) ∧ (∀ r k : Int, 0 ≤ r → r < q' → 0 ≤ k → k < 1395 → S' (1395 * r + k) = S (1395 * (if q = 10 then r + 1 else r) + k)) ∧ ∀ k : Int, 0 ≤ k → k < 1395 → S' (1395 * q' + k) = N k
theorem zmap_row {AI : zAI} {a : Nat} {lo hi : Int} {f : Int → Int} : zmap AI a lo hi f = zrow AI a (fun j => if lo ≤ j ∧ j < hi then f j else AI a j) := by
  funext a' j
  simp only [zmap, zrow]
  by_cases h : a' = a
  · simp [h]
  · simp [h]
theorem zfill_row {AI : zAI} {a : Nat} {lo hi v : Int} : zfill AI a lo hi v = zrow AI a (zfl (AI a) lo hi v) := by
  funext a' j
  simp only [zfill, zrow, zfl]
  by_cases h : a' = a
  · simp [h]
  · simp [h]
theorem zsF_self {FI : zFI} {o j : Nat} : zsF FI o j (FI o j) = FI := by
  funext o' j'
  unfold zsF
  split
  · rename_i h; rw [h.1, h.2]
  · rfl
theorem zrow_111 {AI : zAI} {S : Int → Int} : zrow AI 113 S = zrow (zrow AI 113 S) 111 (AI 111) := by
  have h := zrow_self (zrow AI 113 S) 111
  rw [zrow_neF (by decide)] at h
  exact h.symm
theorem zrow_fill {AI : zAI} {a : Nat} {f : Int → Int} {lo hi v : Int} : zfill (zrow AI a f) a lo hi v = zrow AI a (zfl f lo hi v) := by
  rw [zfill_row, zrow_zrow, zrow_eqF]
def nExpect (N : Int → Int) (o y s : Int) : Int → Int := zu1 N (125 + 40 * o + y) s
def nArise (N : Int → Int) (o tx sum f l : Int) : Int → Int := zu1 (zu1 (zu1 (zu1 (zu1 (zu1 N (245 + 5 * N 3 + 0) o) (245 + 5 * N 3 + 1) tx) (245 + 5 * N 3 + 2) sum) (245 + 5 * N 3 + 3) f) (245 + 5 * N 3 + 4) l) 3 (N 3 + 1)
def nSettle (N : Int → Int) (i : Int) : Int → Int := zu1 (zu1 (zu1 N (245 + 5 * i + 2) (zOpen (mIt N) (N 0) i)) (245 + 5 * i + 3) (N 0 + 1)) (245 + 5 * i + 4) (N 0 + 1)
def nLoss (N : Int → Int) (o sum last : Int) : Int → Int := zu1 (zu1 (zu1 (zu1 (zu1 N (395 + 4 * N 4 + 0) o) (395 + 4 * N 4 + 1) sum) (395 + 4 * N 4 + 2) last) (395 + 4 * N 4 + 3) sum) 4 (N 4 + 1)
