/-! PURE NUMBERS: what an item gives, sums, filled rows -/
def zfill (AI : zAI) (a : Nat) (lo hi v : Int) : zAI := fun a' j => if a' = a ∧ lo ≤ j ∧ j < hi then v else AI a' j
theorem zfill_0 {AI : zAI} {a : Nat} {lo v : Int} : zfill AI a lo lo v = AI := by
  funext a' j
  exact if_neg (by omega)
theorem zfill_step {AI : zAI} {a : Nat} {lo hi v : Int} (h : lo ≤ hi) : zsA (zfill AI a lo hi v) a hi v = zfill AI a lo (hi + 1) v := by
  funext a' j
  simp only [zsA, zfill]
  by_cases ha : a' = a
  · subst ha
    simp only [true_and]
    by_cases hj : j = hi
    · rw [if_pos hj, if_pos (by omega)]
    · rw [if_neg hj]
      by_cases h2 : lo ≤ j ∧ j < hi
      · rw [if_pos h2, if_pos (by omega)]
      · rw [if_neg h2, if_neg (by omega)]
  · simp [ha]
/-- a row written from lo on, by a function of the place -/
def zmap (AI : zAI) (a : Nat) (lo hi : Int) (f : Int → Int) : zAI := fun a' j => if a' = a ∧ lo ≤ j ∧ j < hi then f j else AI a' j
theorem zmap_0 {AI : zAI} {a : Nat} {lo : Int} {f : Int → Int} : zmap AI a lo lo f = AI := by
  funext a' j
  exact if_neg (by omega)
theorem zmap_step {AI : zAI} {a : Nat} {lo hi v : Int} {f : Int → Int} (h : lo ≤ hi) (hv : v = f hi) : zsA (zmap AI a lo hi f) a hi v = zmap AI a lo (hi + 1) f := by
  funext a' j
  simp only [zsA, zmap]
  by_cases ha : a' = a
  · subst ha
    simp only [true_and]
    by_cases hj : j = hi
    · rw [if_pos hj, if_pos (by omega), hv, hj]
    · rw [if_neg hj]
      by_cases h2 : lo ≤ j ∧ j < hi
      · rw [if_pos h2, if_pos (by omega)]
      · rw [if_neg h2, if_neg (by omega)]
  · simp [ha]
theorem zmap_ne {AI : zAI} {a a' : Nat} {lo hi j : Int} {f : Int → Int} (h : a' ≠ a) : zmap AI a lo hi f a' j = AI a' j := if_neg (fun z => h z.1)
theorem zmap_in {AI : zAI} {a : Nat} {lo hi j : Int} {f : Int → Int} (h : lo ≤ j ∧ j < hi) : zmap AI a lo hi f a j = f j := if_pos ⟨rfl, h⟩
theorem zmap_out {AI : zAI} {a : Nat} {lo hi j : Int} {f : Int → Int} (h : j < lo ∨ hi ≤ j) : zmap AI a lo hi f a j = AI a j := if_neg (by omega)
theorem zsA_ne {AI : zAI} {a a' : Nat} {i j x : Int} (h : a' ≠ a) : zsA AI a i x a' j = AI a' j := if_neg (fun z => h z.1)
theorem zsA_eq {AI : zAI} {a : Nat} {i x : Int} : zsA AI a i x a i = x := if_pos ⟨rfl, rfl⟩
theorem zsA_nj {AI : zAI} {a a' : Nat} {i j x : Int} (h : j ≠ i) : zsA AI a i x a' j = AI a' j := if_neg (fun z => h z.2)
theorem zsF_ne {FI : zFI} {o o' j j' : Nat} {x : Int} (h : o' ≠ o ∨ j' ≠ j) : zsF FI o j x o' j' = FI o' j' := if_neg (by omega)
theorem zsF_eq {FI : zFI} {o j : Nat} {x : Int} : zsF FI o j x o j = x := if_pos ⟨rfl, rfl⟩
theorem zmulb {a b A B : Int} (h0 : 0 ≤ a) (h1 : a ≤ A) (h2 : 0 ≤ b) (h3 : b ≤ B) : 0 ≤ a * b ∧ a * b ≤ A * B := ⟨Int.mul_nonneg h0 h2, Int.mul_le_mul h1 h3 h2 (by omega)⟩
def zS (f : Int → Int) : Nat → Int
  | 0 => 0
  | n + 1 => zS f n + f n
theorem zS_congr {f g : Int → Int} : ∀ n : Nat, (∀ i : Int, 0 ≤ i → i < n → f i = g i) → zS f n = zS g n
  | 0, _ => rfl
  | n + 1, h => by
    show zS f n + f n = zS g n + g n
    rw [zS_congr n (fun i h0 h1 => h i h0 (by omega)), h n (by omega) (by omega)]
theorem zS_add {f g : Int → Int} : ∀ n : Nat, zS (fun i => f i + g i) n = zS f n + zS g n
  | 0 => rfl
  | n + 1 => by
    show zS _ n + (f n + g n) = zS f n + f n + (zS g n + g n)
    rw [zS_add n]; omega
theorem zS_sub {f g : Int → Int} : ∀ n : Nat, zS (fun i => f i - g i) n = zS f n - zS g n
  | 0 => rfl
  | n + 1 => by
    show zS _ n + (f n - g n) = zS f n + f n - (zS g n + g n)
    rw [zS_sub n]; omega
theorem zS_le {f g : Int → Int} : ∀ n : Nat, (∀ i : Int, 0 ≤ i → i < n → f i ≤ g i) → zS f n ≤ zS g n
  | 0, _ => Int.le_refl _
  | n + 1, h => by
    have h1 := zS_le n (fun i h0 h1 => h i h0 (by omega))
    have h2 := h n (by omega) (by omega)
    show zS f n + f n ≤ zS g n + g n
    omega
theorem zS_nn {f : Int → Int} : ∀ n : Nat, (∀ i : Int, 0 ≤ i → i < n → 0 ≤ f i) → 0 ≤ zS f n
  | 0, _ => Int.le_refl _
  | n + 1, h => by
    have h1 := zS_nn n (fun i h0 h1 => h i h0 (by omega))
    have h2 := h n (by omega) (by omega)
    show 0 ≤ zS f n + f n
    omega
theorem zS_zero : ∀ n : Nat, zS (fun _ => 0) n = 0
  | 0 => rfl
  | n + 1 => by show zS _ n + 0 = 0; rw [zS_zero n]; rfl
theorem zS_const (c : Int) : ∀ n : Nat, zS (fun _ => c) n = c * n
  | 0 => by simp [zS]
  | n + 1 => by
    show zS _ n + c = c * ((n + 1 : Nat) : Int)
    rw [zS_const c n, Int.natCast_add, Int.mul_add]; simp
theorem zS_ub {f : Int → Int} {c : Int} (n : Nat) (h : ∀ i : Int, 0 ≤ i → i < n → f i ≤ c) : zS f n ≤ c * n := by
  have := zS_le (g := fun _ => c) n h
  rwa [zS_const] at this
theorem zS_comm {f : Int → Int → Int} : ∀ n m : Nat, zS (fun i => zS (fun j => f i j) m) n = zS (fun j => zS (fun i => f i j) n) m
  | 0, m => (zS_zero m).symm
  | n + 1, m => by
    show zS (fun i => zS (fun j => f i j) m) n + zS (fun j => f n j) m = zS (fun j => zS (fun i => f i j) n + f n j) m
    rw [zS_comm n m, zS_add]
/-- what has come of an item up to a year -/
def zUp (it : Int → Int → Int) (i y : Int) : Int := if y - it i 3 + 1 ≤ 0 then 0 else if it i 4 - it i 3 + 1 ≤ y - it i 3 + 1 then it i 2 else it i 2 * (y - it i 3 + 1) / (it i 4 - it i 3 + 1)
def zPart (it : Int → Int → Int) (i y : Int) : Int := zUp it i y - zUp it i (y - 1)
def zOpen (it : Int → Int → Int) (now i : Int) : Int := it i 2 - zUp it i now
/-- an item is as told -/
def wI (it : Int → Int → Int) (i : Int) : Prop := (0 ≤ it i 0 ∧ it i 0 < 3) ∧ (it i 1 = 0 ∨ it i 1 = 1) ∧ (0 ≤ it i 2 ∧ it i 2 ≤ 99999) ∧ (1 ≤ it i 3 ∧ it i 3 ≤ it i 4 ∧ it i 4 ≤ 39)
theorem zUp_b {it : Int → Int → Int} {i : Int} (h : wI it i) (y : Int) : 0 ≤ zUp it i y ∧ zUp it i y ≤ it i 2 := by
  obtain ⟨-, -, ⟨h1, -⟩, h3, h4, h5⟩ := h
  unfold zUp
  by_cases g1 : y - it i 3 + 1 ≤ 0
  · rw [if_pos g1]; omega
  · rw [if_neg g1]
    by_cases g2 : it i 4 - it i 3 + 1 ≤ y - it i 3 + 1
    · rw [if_pos g2]; omega
    · rw [if_neg g2]
      have hm : 0 < it i 4 - it i 3 + 1 := by omega
      refine ⟨Int.ediv_nonneg (Int.mul_nonneg h1 (by omega)) (by omega), ?_⟩
      have h6 : it i 2 * (y - it i 3 + 1) ≤ it i 2 * (it i 4 - it i 3 + 1) := Int.mul_le_mul_of_nonneg_left (by omega) h1
      have h7 := Int.ediv_le_ediv hm h6
      rw [Int.mul_ediv_cancel _ (by omega)] at h7
      exact h7
theorem zUp_mono {it : Int → Int → Int} {i : Int} (h : wI it i) (y : Int) : zUp it i (y - 1) ≤ zUp it i y := by
  have hb := zUp_b h (y - 1)
  have hb2 := zUp_b h y
  obtain ⟨-, -, ⟨h1, -⟩, h3, h4, h5⟩ := h
  by_cases g1 : y - it i 3 + 1 ≤ 0
  · unfold zUp at *; rw [if_pos g1, if_pos (by omega)]; omega
  · by_cases g2 : it i 4 - it i 3 + 1 ≤ y - it i 3 + 1
    · have e : zUp it i y = it i 2 := by unfold zUp; rw [if_neg g1, if_pos g2]
      omega
    · by_cases g3 : y - 1 - it i 3 + 1 ≤ 0
      · have e : zUp it i (y - 1) = 0 := by unfold zUp; rw [if_pos g3]
        omega
      · unfold zUp
        rw [if_neg g1, if_neg g2, if_neg g3, if_neg (by omega)]
        exact Int.ediv_le_ediv (by omega) (Int.mul_le_mul_of_nonneg_left (by omega) h1)
theorem zPart_b {it : Int → Int → Int} {i : Int} (h : wI it i) (y : Int) : 0 ≤ zPart it i y ∧ zPart it i y ≤ it i 2 := by
  have h1 := zUp_mono h y
  have h2 := zUp_b h y
  have h3 := zUp_b h (y - 1)
  unfold zPart
  omega
def zPs (it : Int → Int → Int) (n : Nat) (o y tx : Int) : Int := zS (fun i => if it i 0 = o ∧ it i 1 = tx then zPart it i y else 0) n
theorem zPs_b {it : Int → Int → Int} {n : Nat} (h : ∀ i : Int, 0 ≤ i → i < n → wI it i) (o y tx : Int) : 0 ≤ zPs it n o y tx ∧ zPs it n o y tx ≤ 99999 * n := by
  refine ⟨zS_nn n (fun i h0 h1 => ?_), zS_ub n (fun i h0 h1 => ?_)⟩
  · have := zPart_b (h i h0 h1) y
    split <;> omega
  · have := zPart_b (h i h0 h1) y
    have := (h i h0 h1).2.2.1
    split <;> omega
theorem zPs_t {it : Int → Int → Int} {j : Nat} {o y tx : Int} (h : it j 0 = o ∧ it j 1 = tx) : zPs it (j + 1) o y tx = zPs it j o y tx + zPart it j y := by
  show zS _ j + (if it j 0 = o ∧ it j 1 = tx then zPart it j y else 0) = _
  rw [if_pos h]; rfl
theorem zPs_f {it : Int → Int → Int} {j : Nat} {o y tx : Int} (h : ¬ (it j 0 = o ∧ it j 1 = tx)) : zPs it (j + 1) o y tx = zPs it j o y tx := by
  show zS _ j + (if it j 0 = o ∧ it j 1 = tx then zPart it j y else 0) = _
  rw [if_neg h, Int.add_zero]; rfl
