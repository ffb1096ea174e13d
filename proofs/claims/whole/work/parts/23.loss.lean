/-! LOSSES BY THEIR LAST YEAR: what lapses from t to l, together -/
def zLs (lf lp : Int → Int) (t l : Int) : Int := zS (fun k => if t ≤ lp k ∧ lp k ≤ l then lf k else 0) 50
def zrow (AI : zAI) (a : Nat) (f : Int → Int) : zAI := fun a' j => if a' = a then f j else AI a' j
def zu1 (f : Int → Int) (i x : Int) : Int → Int := fun j => if j = i then x else f j
theorem zrow_self (AI : zAI) (a : Nat) : zrow AI a (AI a) = AI := by
  funext a' j
  unfold zrow
  split
  · rename_i h; rw [h]
  · rfl
theorem zrow_set {AI : zAI} {a : Nat} {f : Int → Int} {i x : Int} : zsA (zrow AI a f) a i x = zrow AI a (zu1 f i x) := by
  funext a' j
  simp only [zsA, zrow, zu1]
  by_cases h : a' = a
  · simp [h]
  · simp [h]
theorem zrow_eq {AI : zAI} {a : Nat} {f : Int → Int} {j : Int} : zrow AI a f a j = f j := if_pos rfl
theorem zrow_ne {AI : zAI} {a a' : Nat} {f : Int → Int} {j : Int} (h : a' ≠ a) : zrow AI a f a' j = AI a' j := if_neg h
theorem zrow_neF {AI : zAI} {a a' : Nat} {f : Int → Int} (h : a' ≠ a) : zrow AI a f a' = AI a' := funext fun _ => if_neg h
theorem zrow_zrow {AI : zAI} {a : Nat} {f g : Int → Int} : zrow (zrow AI a f) a g = zrow AI a g := by
  funext a' j
  simp only [zrow]
  by_cases h : a' = a
  · simp [h]
  · simp [h]
theorem zsA_row {AI : zAI} {a : Nat} {i x : Int} : zsA AI a i x = zrow AI a (zu1 (AI a) i x) := by
  rw [← zrow_set, zrow_self]
theorem zu1_eq {f : Int → Int} {i x : Int} : zu1 f i x i = x := if_pos rfl
theorem zu1_ne {f : Int → Int} {i j x : Int} (h : j ≠ i) : zu1 f i x j = f j := if_neg h
/-- one term of a sum of what is not negative -/
theorem zS_term {f : Int → Int} : ∀ n : Nat, (∀ i : Int, 0 ≤ i → i < n → 0 ≤ f i) → ∀ b : Int, 0 ≤ b → b < n → f b ≤ zS f n
  | 0, _, b, h0, h1 => by omega
  | n + 1, h, b, h0, h1 => by
    have hn := h n (by omega) (by omega)
    have hs := zS_nn n (fun i h0 h1 => h i h0 (by omega))
    show f b ≤ zS f n + f n
    by_cases hb : b = n
    · rw [hb]; omega
    · have := zS_term n (fun i h0 h1 => h i h0 (by omega)) b h0 (by omega)
      omega
/-- a sum with one term changed -/
theorem zS_upd {f g : Int → Int} : ∀ n : Nat, ∀ b : Int, 0 ≤ b → b < n → (∀ i : Int, 0 ≤ i → i < n → i ≠ b → g i = f i) → zS g n = zS f n + (g b - f b)
  | 0, b, h0, h1, _ => by omega
  | n + 1, b, h0, h1, h => by
    show zS g n + g n = zS f n + f n + (g b - f b)
    by_cases hb : b = n
    · rw [zS_congr n (fun i h0 h1 => h i h0 (by omega) (by omega)), hb]; omega
    · rw [zS_upd n b h0 (by omega) (fun i h0 h1 h2 => h i h0 (by omega) h2), h n (by omega) (by omega) (by omega)]; omega
theorem zLs_nn {lf lp : Int → Int} (h : ∀ k : Int, 0 ≤ k → k < 50 → 0 ≤ lf k) (t l : Int) : 0 ≤ zLs lf lp t l := zS_nn 50 (fun i h0 h1 => by have := h i h0 h1; split <;> omega)
theorem zLs_mono {lf lp : Int → Int} (h : ∀ k : Int, 0 ≤ k → k < 50 → 0 ≤ lf k) {t l l' : Int} (hl : l ≤ l') : zLs lf lp t l ≤ zLs lf lp t l' := by
  refine zS_le 50 (fun i h0 h1 => ?_)
  have := h i h0 h1
  by_cases c1 : t ≤ lp i ∧ lp i ≤ l
  · rw [if_pos c1, if_pos (by omega)]; omega
  · rw [if_neg c1]; split <;> omega
theorem zLs_split {lf lp : Int → Int} {t l : Int} (h : t ≤ l) : zLs lf lp (t + 1) l = zLs lf lp t l - zLs lf lp t t := by
  unfold zLs
  rw [← zS_sub]
  refine zS_congr 50 (fun i h0 h1 => ?_)
  by_cases c1 : t ≤ lp i ∧ lp i ≤ t
  · rw [if_neg (by omega), if_pos (by omega), if_pos c1]; omega
  · by_cases c2 : t + 1 ≤ lp i ∧ lp i ≤ l
    · rw [if_pos c2, if_pos (by omega), if_neg c1]; omega
    · rw [if_neg c2, if_neg (by omega), if_neg c1]; omega
/-- some of one loss is taken -/
theorem zLs_take {lf lp : Int → Int} {b v : Int} (h0 : 0 ≤ b) (h1 : b < 50) (t l : Int) : zLs (zu1 lf b (lf b - v)) lp t l = zLs lf lp t l - (if t ≤ lp b ∧ lp b ≤ l then v else 0) := by
  have e := zS_upd (f := fun k => if t ≤ lp k ∧ lp k ≤ l then lf k else 0) (g := fun k => if t ≤ lp k ∧ lp k ≤ l then zu1 lf b (lf b - v) k else 0) 50 b h0 h1 (fun i _ _ hi => by simp only [zu1_ne hi])
  show zS _ 50 = zS _ 50 - _
  rw [e]
  simp only [zu1_eq]
  by_cases c1 : t ≤ lp b ∧ lp b ≤ l
  · rw [if_pos c1, if_pos c1, if_pos c1]; omega
  · rw [if_neg c1, if_neg c1, if_neg c1]; omega
/-- nothing is there ahead of the earliest -/
theorem zLs_none {lf lp : Int → Int} {t l : Int} (h : ∀ k : Int, 0 ≤ k → k < 50 → 0 ≤ lf k) (hn : ∀ k : Int, 0 ≤ k → k < 50 → 0 < lf k → t ≤ lp k → l < lp k) : zLs lf lp t l = 0 := by
  have e : zLs lf lp t l = zS (fun _ => 0) 50 := zS_congr 50 (fun i h0 h1 => by
    have a1 := h i h0 h1
    have a2 := hn i h0 h1
    by_cases c1 : t ≤ lp i ∧ lp i ≤ l
    · rw [if_pos c1]
      by_cases c2 : 0 < lf i
      · have := a2 c2 c1.1; omega
      · omega
    · rw [if_neg c1])
  rw [e, zS_zero]
/-- the earliest loss is taken in part: what is left from the front -/
theorem zLs_step {lf0 lf lp : Int → Int} {t n b v : Int} (hb0 : 0 ≤ b) (hb1 : b < 50) (hnn : ∀ k : Int, 0 ≤ k → k < 50 → 0 ≤ lf k) (hinv : ∀ l, zLs lf lp t l = max 0 (zLs lf0 lp t l - n)) (hbt : t ≤ lp b) (hmin : ∀ k : Int, 0 ≤ k → k < 50 → 0 < lf k → t ≤ lp k → lp b ≤ lp k) (hv0 : 0 < v) (hv1 : v ≤ lf b) :
    ∀ l, zLs (zu1 lf b (lf b - v)) lp t l = max 0 (zLs lf0 lp t l - (n + v)) := by
  intro l
  rw [zLs_take hb0 hb1]
  by_cases c1 : lp b ≤ l
  · rw [if_pos ⟨hbt, c1⟩]
    have ht : (if t ≤ lp b ∧ lp b ≤ l then lf b else 0) ≤ zLs lf lp t l := zS_term (f := fun k => if t ≤ lp k ∧ lp k ≤ l then lf k else 0) 50 (fun i h0 h1 => by have := hnn i h0 h1; split <;> omega) b hb0 hb1
    rw [if_pos ⟨hbt, c1⟩] at ht
    have hi := hinv l
    omega
  · rw [if_neg (fun z => c1 z.2)]
    have h0 := zLs_none (lf := lf) (lp := lp) (t := t) (l := l) hnn (fun k h0 h1 h2 h3 => by have := hmin k h0 h1 h2 h3; omega)
    have hi := hinv l
    omega
/-- a new loss at a place that was empty -/
theorem zLs_add {lf lp : Int → Int} {b v q : Int} (h0 : 0 ≤ b) (h1 : b < 50) (hb : lf b = 0) (t l : Int) : zLs (zu1 lf b v) (zu1 lp b q) t l = zLs lf lp t l + (if t ≤ q ∧ q ≤ l then v else 0) := by
  have e := zS_upd (f := fun k => if t ≤ lp k ∧ lp k ≤ l then lf k else 0) (g := fun k => if t ≤ zu1 lp b q k ∧ zu1 lp b q k ≤ l then zu1 lf b v k else 0) 50 b h0 h1 (fun i _ _ hi => by simp only [zu1_ne hi])
  show zS _ 50 = zS _ 50 + _
  rw [e]
  simp only [zu1_eq]
  rw [hb]
  simp
/-- the years, one by one: what is there by last years, ahead of year t0 + s -/
def zP2 (ded cov : Int → Int) (c : Int) (P : Int → Int) (t l : Int) : Int := max 0 (P l - (cov t - min (ded t) (cov t))) + (if t + c ≤ l then ded t - min (ded t) (cov t) else 0)
def zPf (ded cov : Int → Int) (c : Int) (P0 : Int → Int) (t0 : Int) : Nat → Int → Int
  | 0 => P0
  | s + 1 => fun l => zP2 ded cov c (zPf ded cov c P0 t0 s) (t0 + s) l - zP2 ded cov c (zPf ded cov c P0 t0 s) (t0 + s) (t0 + s)
/-- what is used of losses in year t0 + s; what is there behind it -/
def zUL (ded cov : Int → Int) (c : Int) (P0 : Int → Int) (t0 : Int) (s : Nat) : Int := min (cov (t0 + s) - min (ded (t0 + s)) (cov (t0 + s))) (zPf ded cov c P0 t0 s 59)
def zBH (ded cov : Int → Int) (c : Int) (P0 : Int → Int) (t0 : Int) (s : Nat) : Int := zP2 ded cov c (zPf ded cov c P0 t0 s) (t0 + s) 59 - zP2 ded cov c (zPf ded cov c P0 t0 s) (t0 + s) (t0 + s)
/-- the losses that are told, of an office, by their last years from t to l -/
def zL0 (lo : Int → Int → Int) (nL : Nat) (o t l : Int) : Int := zS (fun k => if lo k 0 = o ∧ t ≤ lo k 2 ∧ lo k 2 ≤ l then lo k 3 else 0) nL
/-- a loss is as told -/
def wL (lo : Int → Int → Int) (k : Int) : Prop := (0 ≤ lo k 0 ∧ lo k 0 < 3) ∧ (0 ≤ lo k 1 ∧ lo k 1 ≤ 3000000) ∧ (1 ≤ lo k 2 ∧ lo k 2 ≤ 39) ∧ (0 ≤ lo k 3 ∧ lo k 3 ≤ lo k 1)
