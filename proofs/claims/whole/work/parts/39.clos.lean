/-! CLOSINGS -/
def mWas (N : Int → Int) (o : Int) : Int := if N 0 = 0 then 0 else N (435 + 240 * o + 6 * N 0 - 6 + 1) - N (435 + 240 * o + 6 * N 0 - 6 + 0)
def mByT (N : Int → Int) (o i : Int) : Int := N (1275 + 40 * o + (N 0 + i)) * N (5 + 40 * o + (N 0 + i)) / 1000 - N (1155 + 40 * o + (N 0 + i)) * N (5 + 40 * o + (N 0 + i)) / 1000
def mByR (N : Int → Int) (o : Int) : Int := if N 0 = 0 then 0 else zS (mByT N o) (40 - N 0).toNat
def nCl1 (N : Int → Int) (nI nL : Nat) (o : Int) : Int → Int :=
  zu1 (zu1 (zu1 (zu1 (zu1 N (435 + 240 * o + 6 * N 0 + 0) (mLi N nI o)) (435 + 240 * o + 6 * N 0 + 1) (mAs N nI nL o (-1) 0)) (435 + 240 * o + 6 * N 0 + 2) (mUn N nI nL o (-1) 0)) (435 + 240 * o + 6 * N 0 + 3) (mAs N nI nL o (-1) 0 - mLi N nI o - mWas N o)) (435 + 240 * o + 6 * N 0 + 4) (if N 0 = 0 then 0 else mByR N o - mWas N o)
def nCl2 (N M : Int → Int) (nI nL : Nat) (o k : Int) : Int → Int := fun j => if 1155 + 40 * o + (N 0 + 1) ≤ j ∧ j < 1155 + 40 * o + k then mTax N nI o (j - (1155 + 40 * o)) else if 1275 + 40 * o + (N 0 + 1) ≤ j ∧ j < 1275 + 40 * o + k then mU N nI nL o (-1) 0 (j - (1275 + 40 * o)) else M j
def nCloses (N : Int → Int) (nI nL : Nat) (o : Int) : Int → Int := nCl2 N (nCl1 N nI nL o) nI nL o 40
theorem nCl2_0 {N M : Int → Int} {nI nL : Nat} {o : Int} : nCl2 N M nI nL o (N 0 + 1) = M := by
  funext j
  unfold nCl2
  rw [if_neg (by omega), if_neg (by omega)]
theorem nCl2_step {N M : Int → Int} {nI nL : Nat} {o k a b : Int} (ho : 0 ≤ o) (ho2 : o < 3) (hy : 0 ≤ N 0) (hk : N 0 + 1 ≤ k) (hk2 : k < 40) (ha : a = mTax N nI o k) (hb : b = mU N nI nL o (-1) 0 k) : zu1 (zu1 (nCl2 N M nI nL o k) (1155 + 40 * o + k) a) (1275 + 40 * o + k) b = nCl2 N M nI nL o (k + 1) := by
  funext j
  unfold nCl2
  by_cases e1 : j = 1275 + 40 * o + k
  · rw [e1, zu1_eq, if_neg (by omega), if_pos (by omega), hb]
    congr 1
    omega
  · rw [zu1_ne e1]
    by_cases e2 : j = 1155 + 40 * o + k
    · rw [e2, zu1_eq, if_pos (by omega), ha]
      congr 1
      omega
    · rw [zu1_ne e2]
      by_cases c1 : 1155 + 40 * o + (N 0 + 1) ≤ j ∧ j < 1155 + 40 * o + k
      · rw [if_pos c1, if_pos (by omega)]
      · have c3 : ¬ (1155 + 40 * o + (N 0 + 1) ≤ j ∧ j < 1155 + 40 * o + (k + 1)) := by omega
        rw [if_neg c1, if_neg c3]
        by_cases c2 : 1275 + 40 * o + (N 0 + 1) ≤ j ∧ j < 1275 + 40 * o + k
        · rw [if_pos c2, if_pos (by omega)]
        · have c4 : ¬ (1275 + 40 * o + (N 0 + 1) ≤ j ∧ j < 1275 + 40 * o + (k + 1)) := by omega
          rw [if_neg c2, if_neg c4]
theorem nCl1_same {N : Int → Int} {nI nL : Nat} {o : Int} (ho : 0 ≤ o) (hy : 0 ≤ N 0) : zSame N (nCl1 N nI nL o) := fun j a b => by
  unfold nCl1
  rw [zu1_ne (by omega), zu1_ne (by omega), zu1_ne (by omega), zu1_ne (by omega), zu1_ne (by omega)]
theorem nCloses_same {N : Int → Int} {nI nL : Nat} {o : Int} (ho : 0 ≤ o) (hy : 0 ≤ N 0) : zSame N (nCloses N nI nL o) := fun j a b => by
  unfold nCloses nCl2
  rw [if_neg (by omega), if_neg (by omega)]
  exact nCl1_same ho hy j a b
/-- the balances of the closings are within bounds -/
def mCb (N : Int → Int) : Prop := ∀ o y : Int, 0 ≤ o → o < 3 → 0 ≤ y → y < 40 → (0 ≤ N (435 + 240 * o + 6 * y + 0) ∧ N (435 + 240 * o + 6 * y + 0) ≤ 150000000) ∧ (0 ≤ N (435 + 240 * o + 6 * y + 1) ∧ N (435 + 240 * o + 6 * y + 1) ≤ 150000000)
theorem mWas_b {N : Int → Int} (h : mCb N) {o : Int} (g0 : 0 ≤ o) (g1 : o < 3) (hy : 0 ≤ N 0) (hy2 : N 0 < 40) : -150000000 ≤ mWas N o ∧ mWas N o ≤ 150000000 := by
  unfold mWas
  split
  · omega
  · have q := h o (N 0 - 1) g0 g1 (by omega) (by omega)
    rw [show 435 + 240 * o + 6 * (N 0 - 1) + 0 = 435 + 240 * o + 6 * N 0 - 6 + 0 by omega, show 435 + 240 * o + 6 * (N 0 - 1) + 1 = 435 + 240 * o + 6 * N 0 - 6 + 1 by omega] at q
    omega
theorem mByT_b {N : Int → Int} {nI nL : Nat} (hW : mW N nI nL) (hC : mCl N) {o : Int} (g0 : 0 ≤ o) (g1 : o < 3) {i : Int} (h0 : 0 ≤ i) (h1 : N 0 + i < 40) : (-3600000 ≤ mByT N o i ∧ mByT N o i ≤ 3600000) ∧ (0 ≤ N (1275 + 40 * o + (N 0 + i)) ∧ N (1275 + 40 * o + (N 0 + i)) ≤ 4000000) ∧ (0 ≤ N (1155 + 40 * o + (N 0 + i)) ∧ N (1155 + 40 * o + (N 0 + i)) ≤ 4000000) ∧ (0 ≤ N (5 + 40 * o + (N 0 + i)) ∧ N (5 + 40 * o + (N 0 + i)) ≤ 900) ∧ (0 ≤ N (1275 + 40 * o + (N 0 + i)) * N (5 + 40 * o + (N 0 + i)) / 1000 ∧ N (1275 + 40 * o + (N 0 + i)) * N (5 + 40 * o + (N 0 + i)) / 1000 ≤ 3600000) ∧ (0 ≤ N (1155 + 40 * o + (N 0 + i)) * N (5 + 40 * o + (N 0 + i)) / 1000 ∧ N (1155 + 40 * o + (N 0 + i)) * N (5 + 40 * o + (N 0 + i)) / 1000 ≤ 3600000) := by
  have hy := hW.1
  have r := (hW.2.2.2.2.2.2.2.1 o (N 0 + i) g0 g1 (by omega) (by omega)).1
  have a := hC.2 (1275 + 40 * o + (N 0 + i)) (by omega) (by omega)
  have b := hC.2 (1155 + 40 * o + (N 0 + i)) (by omega) (by omega)
  have qa := ztx_b a.1 a.2 r.1 r.2 (by omega)
  have qb := ztx_b b.1 b.2 r.1 r.2 (by omega)
  refine ⟨?_, a, b, r, qa, qb⟩
  unfold mByT
  omega
theorem zS_lb {f : Int → Int} {c : Int} (n : Nat) (h : ∀ i : Int, 0 ≤ i → i < n → c ≤ f i) : c * n ≤ zS f n := by
  rw [← zS_const c n]
  exact zS_le n h
theorem mByR_b {N : Int → Int} {nI nL : Nat} (hW : mW N nI nL) (hC : mCl N) {o : Int} (g0 : 0 ≤ o) (g1 : o < 3) : -144000000 ≤ mByR N o ∧ mByR N o ≤ 144000000 := by
  have hy := hW.1
  unfold mByR
  split
  · omega
  · have h1 := zS_ub (f := mByT N o) (c := 3600000) (40 - N 0).toNat (fun i a b => (mByT_b hW hC g0 g1 a (by omega)).1.2)
    have h2 := zS_lb (f := mByT N o) (c := -3600000) (40 - N 0).toNat (fun i a b => (mByT_b hW hC g0 g1 a (by omega)).1.1)
    omega
