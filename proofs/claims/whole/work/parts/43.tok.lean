/-! TOKENS of a tape b of n bytes: of the token at p or behind it its kind (0 none, 1 the end, 2 word, 3 number, 4 semicolon), its place, what lies behind it -/
def zsk (b : Int → Int) (n : Int) : Nat → Int → Int
  | 0, p => p
  | d + 1, p => if p < n ∧ (b p = 32 ∨ b p = 10) then zsk b n d (p + 1) else p
def tF (b : Int → Int) (n p : Int) : Int := zsk b n (n - p).toNat p
theorem tF_step {b : Int → Int} {n p : Int} (h : p < n) (g : b p = 32 ∨ b p = 10) : tF b n p = tF b n (p + 1) := by
  unfold tF
  rw [show (n - p).toNat = (n - (p + 1)).toNat + 1 by omega]
  exact if_pos ⟨h, g⟩
theorem tF_stop {b : Int → Int} {n p : Int} (h : ¬ (p < n ∧ (b p = 32 ∨ b p = 10))) : tF b n p = p := by
  unfold tF
  cases (n - p).toNat with
  | zero => rfl
  | succ d => exact if_neg h
def zrn (b : Int → Int) (n : Int) : Nat → Int → Int
  | 0, p => p
  | d + 1, p => if p < n ∧ ((97 ≤ b p ∧ b p ≤ 122) ∨ (48 ≤ b p ∧ b p ≤ 57)) then zrn b n d (p + 1) else p
def tE (b : Int → Int) (n p : Int) : Int := zrn b n (n - p).toNat p
theorem tE_step {b : Int → Int} {n p : Int} (h : p < n) (g : (97 ≤ b p ∧ b p ≤ 122) ∨ (48 ≤ b p ∧ b p ≤ 57)) : tE b n p = tE b n (p + 1) := by
  unfold tE
  rw [show (n - p).toNat = (n - (p + 1)).toNat + 1 by omega]
  exact if_pos ⟨h, g⟩
theorem tE_stop {b : Int → Int} {n p : Int} (h : ¬ (p < n ∧ ((97 ≤ b p ∧ b p ≤ 122) ∨ (48 ≤ b p ∧ b p ≤ 57)))) : tE b n p = p := by
  unfold tE
  cases (n - p).toNat with
  | zero => rfl
  | succ d => exact if_neg h
/-- how many digits -/
def zdg (b : Int → Int) (q : Int) (k : Nat) : Int := zS (fun i => if 48 ≤ b (q + i) ∧ b (q + i) ≤ 57 then 1 else 0) k
theorem zdg_b {b : Int → Int} {q : Int} (k : Nat) : 0 ≤ zdg b q k ∧ zdg b q k ≤ k := by
  have h1 := zS_nn (f := fun i => if 48 ≤ b (q + i) ∧ b (q + i) ≤ 57 then (1 : Int) else 0) k (fun i _ _ => by split <;> omega)
  have h2 := zS_ub (f := fun i => if 48 ≤ b (q + i) ∧ b (q + i) ≤ 57 then (1 : Int) else 0) (c := 1) k (fun i _ _ => by split <;> omega)
  unfold zdg
  omega
theorem zdg_d {b : Int → Int} {q : Int} {k : Nat} (h : 48 ≤ b (q + k) ∧ b (q + k) ≤ 57) : zdg b q (k + 1) = zdg b q k + 1 := zS_t (if_pos h)
theorem zdg_l {b : Int → Int} {q : Int} {k : Nat} (h : ¬ (48 ≤ b (q + k) ∧ b (q + k) ≤ 57)) : zdg b q (k + 1) = zdg b q k := zS_f (if_neg h)
/-- the first k signs as a number; as a word -/
def zvl (b : Int → Int) (q : Int) : Nat → Int
  | 0 => 0
  | k + 1 => 10 * zvl b q k + b (q + k) - 48
def zwd (b : Int → Int) (q : Int) : Nat → Int
  | 0 => 0
  | k + 1 => 27 * zwd b q k + b (q + k) - 96
def tR (b : Int → Int) (n p : Int) : Nat := (tE b n (tF b n p) - tF b n p).toNat
def tK (b : Int → Int) (n p : Int) : Int := if 600 < n ∧ 600 ≤ tF b n p then 0 else if n ≤ tF b n p then 1 else if b (tF b n p) = 59 then 4 else if 0 < tR b n p ∧ zdg b (tF b n p) (tR b n p) = 0 then 2 else if 0 < tR b n p ∧ zdg b (tF b n p) (tR b n p) = tR b n p ∧ tR b n p ≤ 5 then 3 else 0
def tP (b : Int → Int) (n p : Int) : Int := if 600 < n ∧ 600 ≤ tF b n p then 600 else tF b n p
def tN (b : Int → Int) (n p : Int) : Int := if tK b n p = 4 then tF b n p + 1 else tE b n (tF b n p)
def tV (b : Int → Int) (n p : Int) : Int := zvl b (tF b n p) (tR b n p)
/-- the reference's sorts -/
def mso (k : Int) : Int := if k = 0 then 1 else if k = 1 then 0 else k
theorem tK_b {b : Int → Int} {n p : Int} : 0 ≤ tK b n p ∧ tK b n p ≤ 4 := by
  unfold tK
  repeat (first | omega | split)
theorem mso_b {k : Int} (h : 0 ≤ k ∧ k ≤ 4) (j : Int) : (mso k = j) ↔ ((j = 1 ∧ k = 0) ∨ (j = 0 ∧ k = 1) ∨ (2 ≤ j ∧ k = j)) := by
  unfold mso
  split
  · omega
  · split <;> omega
theorem zvl_b {b : Int → Int} {q : Int} (h : ∀ i : Int, 0 ≤ b i ∧ b i ≤ 255) : ∀ k : Nat, -(6 * 10 ^ k - 6) ≤ zvl b q k ∧ zvl b q k ≤ 23 * 10 ^ k - 23
  | 0 => by simp [zvl]
  | k + 1 => by
    have ih := zvl_b (q := q) h k
    have hb := h (q + k)
    have e : (10 : Int) ^ (k + 1) = 10 * 10 ^ k := by rw [Int.pow_succ, Int.mul_comm]
    rw [e]
    show -(6 * (10 * 10 ^ k) - 6) ≤ 10 * zvl b q k + b (q + k) - 48 ∧ 10 * zvl b q k + b (q + k) - 48 ≤ 23 * (10 * 10 ^ k) - 23
    generalize (10 : Int) ^ k = t at *
    omega
theorem zwd_b {b : Int → Int} {q : Int} (h : ∀ i : Int, 0 ≤ b i ∧ b i ≤ 255) : ∀ k : Nat, -(7 * 27 ^ k - 7) ≤ zwd b q k ∧ zwd b q k ≤ 7 * 27 ^ k - 7
  | 0 => by simp [zwd]
  | k + 1 => by
    have ih := zwd_b (q := q) h k
    have hb := h (q + k)
    have e : (27 : Int) ^ (k + 1) = 27 * 27 ^ k := by rw [Int.pow_succ, Int.mul_comm]
    rw [e]
    show -(7 * (27 * 27 ^ k) - 7) ≤ 27 * zwd b q k + b (q + k) - 96 ∧ 27 * zwd b q k + b (q + k) - 96 ≤ 7 * (27 * 27 ^ k) - 7
    generalize (27 : Int) ^ k = t at *
    omega
theorem zp10 : ∀ k : Nat, k < 6 → (10 : Int) ^ k ≤ 100000 := by decide
theorem zp27 : ∀ k : Nat, k < 12 → (27 : Int) ^ k ≤ 5559060566555523 := by decide
theorem zvl_c {b : Int → Int} {q : Int} (h : ∀ i : Int, 0 ≤ b i ∧ b i ≤ 255) {k : Nat} (hk : k < 6) : -600000 ≤ zvl b q k ∧ zvl b q k ≤ 2300000 := by
  have h1 := zvl_b (q := q) h k
  have h2 := zp10 k hk
  generalize (10 : Int) ^ k = t at *
  omega
theorem zwd_c {b : Int → Int} {q : Int} (h : ∀ i : Int, 0 ≤ b i ∧ b i ≤ 255) {k : Nat} (hk : k < 12) : -38913423965888661 ≤ zwd b q k ∧ zwd b q k ≤ 38913423965888661 := by
  have h1 := zwd_b (q := q) h k
  have h2 := zp27 k hk
  generalize (27 : Int) ^ k = t at *
  omega
/-- what the reference's fields tell of the token at p -/
def zFf (FI FI1 : zFI) : Prop := ∀ o j, o ≠ 100 ∨ (j ≠ 4 ∧ j ≠ 5 ∧ j ≠ 6 ∧ j ≠ 7 ∧ j ≠ 10) → FI1 o j = FI o j
theorem zFf.rfl {FI : zFI} : zFf FI FI := fun _ _ _ => Eq.refl _
theorem zFf.trans {FI F1 F2 : zFI} (h : zFf FI F1) (g : zFf F1 F2) : zFf FI F2 := fun o j a => (g o j a).trans (h o j a)
theorem zFf.set {FI F1 : zFI} (h : zFf FI F1) {j : Nat} {x : Int} (hj : j = 4 ∨ j = 5 ∨ j = 6 ∨ j = 7 ∨ j = 10) : zFf FI (zsF F1 100 j x) := fun o k a => by
  unfold zsF
  rw [if_neg (by omega)]
  exact h o k a
def tAt (FI : zFI) (b : Int → Int) (n p : Int) : Prop := FI 100 3 = n ∧ FI 100 5 = tP b n p ∧ FI 100 6 = mso (tK b n p) ∧ (2 ≤ tK b n p → FI 100 4 = tN b n p) ∧ (tK b n p = 3 → FI 100 7 = tV b n p) ∧ (tK b n p = 2 → FI 100 10 = zwd b (tP b n p) (min (tR b n p) 11)) ∧ 0 ≤ FI 100 4 ∧ FI 100 4 ≤ 641
theorem tF_b {b : Int → Int} {n : Int} : ∀ (d : Nat) (p : Int), p ≤ zsk b n d p ∧ zsk b n d p ≤ max p n
  | 0, p => by unfold zsk; omega
  | d + 1, p => by
    have ih := tF_b (b := b) (n := n) d (p + 1)
    show p ≤ (if p < n ∧ (b p = 32 ∨ b p = 10) then zsk b n d (p + 1) else p) ∧ (if p < n ∧ (b p = 32 ∨ b p = 10) then zsk b n d (p + 1) else p) ≤ max p n
    split <;> omega
theorem tE_b {b : Int → Int} {n : Int} : ∀ (d : Nat) (p : Int), p ≤ zrn b n d p ∧ zrn b n d p ≤ max p n
  | 0, p => by unfold zrn; omega
  | d + 1, p => by
    have ih := tE_b (b := b) (n := n) d (p + 1)
    show p ≤ (if p < n ∧ ((97 ≤ b p ∧ b p ≤ 122) ∨ (48 ≤ b p ∧ b p ≤ 57)) then zrn b n d (p + 1) else p) ∧ (if p < n ∧ ((97 ≤ b p ∧ b p ≤ 122) ∨ (48 ≤ b p ∧ b p ≤ 57)) then zrn b n d (p + 1) else p) ≤ max p n
    split <;> omega
section
variable {b : Int → Int} {n p : Int}
theorem tK_600 (h : 600 < n) (g : 600 ≤ tF b n p) : tK b n p = 0 ∧ tP b n p = 600 := ⟨if_pos ⟨h, g⟩, if_pos ⟨h, g⟩⟩
theorem tK_end (h : ¬ (600 < n ∧ 600 ≤ tF b n p)) (g : n ≤ tF b n p) : tK b n p = 1 ∧ tP b n p = tF b n p := by
  refine ⟨?_, if_neg h⟩
  unfold tK
  rw [if_neg h, if_pos g]
theorem tK_sign (h : ¬ (600 < n ∧ 600 ≤ tF b n p)) (g : tF b n p < n) (e : b (tF b n p) = 59) : tK b n p = 4 ∧ tP b n p = tF b n p ∧ tN b n p = tF b n p + 1 := by
  have q : tK b n p = 4 := by
    unfold tK
    rw [if_neg h, if_neg (by omega), if_pos e]
  refine ⟨q, if_neg h, if_pos q⟩
theorem tK_non (h : ¬ (600 < n ∧ 600 ≤ tF b n p)) (g : tF b n p < n) (e : b (tF b n p) ≠ 59) (l : ¬ ((97 ≤ b (tF b n p) ∧ b (tF b n p) ≤ 122) ∨ (48 ≤ b (tF b n p) ∧ b (tF b n p) ≤ 57))) : tK b n p = 0 ∧ tP b n p = tF b n p := by
  refine ⟨?_, if_neg h⟩
  have r : tR b n p = 0 := by
    unfold tR
    rw [tE_stop (fun z => l z.2)]
    omega
  unfold tK
  rw [if_neg h, if_neg (by omega), if_neg e, if_neg (by omega), if_neg (by omega)]
theorem tK_run (h : ¬ (600 < n ∧ 600 ≤ tF b n p)) (g : tF b n p < n) (l : (97 ≤ b (tF b n p) ∧ b (tF b n p) ≤ 122) ∨ (48 ≤ b (tF b n p) ∧ b (tF b n p) ≤ 57)) :
    0 < tR b n p ∧ tP b n p = tF b n p ∧ tN b n p = tE b n (tF b n p) ∧ (zdg b (tF b n p) (tR b n p) = 0 → tK b n p = 2) ∧ (zdg b (tF b n p) (tR b n p) = tR b n p → tR b n p ≤ 5 → tK b n p = 3) ∧ (zdg b (tF b n p) (tR b n p) ≠ 0 → zdg b (tF b n p) (tR b n p) ≠ tR b n p ∨ 5 < tR b n p → tK b n p = 0) := by
  have e : b (tF b n p) ≠ 59 := by omega
  have r : 0 < tR b n p := by
    have q := tE_b (b := b) (n := n) (n - (tF b n p + 1)).toNat (tF b n p + 1)
    unfold tR
    rw [tE_step g l]
    unfold tE
    omega
  have k : tK b n p = if 0 < tR b n p ∧ zdg b (tF b n p) (tR b n p) = 0 then 2 else if 0 < tR b n p ∧ zdg b (tF b n p) (tR b n p) = tR b n p ∧ tR b n p ≤ 5 then 3 else 0 := by
    unfold tK
    rw [if_neg h, if_neg (by omega), if_neg e]
  refine ⟨r, if_neg h, if_neg ?_, fun z => ?_, fun z z2 => ?_, fun z z2 => ?_⟩
  · rw [k]; repeat (first | omega | split)
  · rw [k, if_pos ⟨r, z⟩]
  · rw [k, if_neg (by omega), if_pos ⟨r, z, z2⟩]
  · rw [k, if_neg (by omega), if_neg (by omega)]
end
theorem zdg_1 {b : Int → Int} {q : Int} (h : 48 ≤ b q ∧ b q ≤ 57) : ∀ k : Nat, 1 ≤ zdg b q (k + 1)
  | 0 => by rw [zdg_d (by rw [show q + ((0 : Nat) : Int) = q by omega]; exact h)]; have := (zdg_b (b := b) (q := q) 0).1; omega
  | k + 1 => by
    have ih := zdg_1 h k
    by_cases c : 48 ≤ b (q + ((k + 1 : Nat) : Int)) ∧ b (q + ((k + 1 : Nat) : Int)) ≤ 57
    · rw [zdg_d c]; omega
    · rw [zdg_l c]; omega
theorem zdg_0 {b : Int → Int} {q : Int} (h : 97 ≤ b q ∧ b q ≤ 122) : ∀ k : Nat, zdg b q (k + 1) ≤ k
  | 0 => by rw [zdg_l (by rw [show q + ((0 : Nat) : Int) = q by omega]; omega)]; have := (zdg_b (b := b) (q := q) 0).2; omega
  | k + 1 => by
    have ih := zdg_0 h k
    by_cases c : 48 ≤ b (q + ((k + 1 : Nat) : Int)) ∧ b (q + ((k + 1 : Nat) : Int)) ≤ 57
    · rw [zdg_d c]; omega
    · rw [zdg_l c]; omega
/-- a run of R signs at q, and what it is -/
def tQ (b : Int → Int) (n p q : Int) (R : Nat) : Prop := 0 < R ∧ tP b n p = q ∧ tN b n p = q + R ∧ tR b n p = R ∧ tV b n p = zvl b q R ∧ (zdg b q R = 0 → tK b n p = 2) ∧ (zdg b q R = R → R ≤ 5 → tK b n p = 3) ∧ (zdg b q R ≠ 0 → zdg b q R ≠ R ∨ 5 < R → tK b n p = 0) ∧ tE b n q = q + R ∧ ((97 ≤ b q ∧ b q ≤ 122 ∧ zdg b q R < R) ∨ (48 ≤ b q ∧ b q ≤ 57 ∧ 1 ≤ zdg b q R))
theorem tQ_of {b : Int → Int} {n p q : Int} (hq : tF b n p = q) (h : ¬ (600 < n ∧ 600 ≤ q)) (g : q < n) (l : (97 ≤ b q ∧ b q ≤ 122) ∨ (48 ≤ b q ∧ b q ≤ 57)) : tQ b n p q (tR b n p) := by
  subst hq
  obtain ⟨k0, k1, k2, k3, k4, k5⟩ := tK_run h g l
  have z := tE_b (b := b) (n := n) (n - tF b n p).toNat (tF b n p)
  have eR : (tR b n p : Int) = tE b n (tF b n p) - tF b n p := by
    unfold tR
    unfold tE
    omega
  refine ⟨k0, k1, by rw [k2]; omega, rfl, rfl, k3, k4, k5, by omega, ?_⟩
  obtain ⟨R, hR⟩ : ∃ R, tR b n p = R + 1 := ⟨tR b n p - 1, by omega⟩
  rw [hR]
  rcases l with l | l
  · have := zdg_0 l R
    exact Or.inl ⟨l.1, l.2, by omega⟩
  · exact Or.inr ⟨l.1, l.2, zdg_1 l R⟩
/-- what is kept while a run is taken: k signs of it so far -/
def tW (FI F : zFI) (b : Int → Int) (n q lt gd : Int) (k : Nat) : Prop := zFf FI F ∧ F 100 3 = n ∧ F 100 4 = q + k ∧ F 100 5 = q ∧ F 100 10 = zwd b q (min k 11) ∧ F 100 7 = zvl b q (min k 5) ∧ (gd = 1 ∨ gd = 0) ∧ (lt = 1 → (gd = 1 ↔ zdg b q k = 0)) ∧ (lt = 0 → (gd = 1 ↔ zdg b q k = k))
