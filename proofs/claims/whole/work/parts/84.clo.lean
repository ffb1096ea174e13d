/-! CLOSINGS in the class: the object at K, its sums, taxed, used behind it -/
def kLay (T : zTt) (FR : zFR) (K : Nat) : Prop := T K = (1, 2) ∧ T (K + 1) = (2, 7) ∧ T (K + 2) = (2, 40) ∧ T (K + 3) = (2, 40) ∧ FR K 0 = some (K + 1) ∧ FR K 1 = some (K + 2) ∧ FR K 2 = some (K + 3)
/-- what is kept -/
def kV (A : zAI) (K : Nat) (N : Int → Int) (o y : Int) : Prop := (∀ f : Int, 0 ≤ f → f < 5 → A (K + 1) f = N (435 + 240 * o + 6 * y + f)) ∧ A (K + 1) 5 = N (435 + 240 * o + 6 * y + 3) - N (435 + 240 * o + 6 * y + 4) ∧ A (K + 1) 6 = N (435 + 240 * o + 6 * y + 5)
def kT (A : zAI) (K : Nat) (N : Int → Int) (o y : Int) : Prop := ∀ t : Int, 0 ≤ t → t < 40 → A (K + 2) t = (if y < t then N (1155 + 40 * o + t) else 0) ∧ A (K + 3) t = (if y < t then N (1275 + 40 * o + t) else 0)
/-- the tax of what was ahead at the rates of now -/
theorem kT_by {A : zAI} {K : Nat} {N : Int → Int} {nI nL : Nat} {o : Int} (hW : mW N nI nL) (hy : 0 < N 0) (h : kT A K N o (N 0 - 1)) (hr : ∀ t : Int, 0 ≤ t → t < 40 → A 12 t = N (5 + 40 * o + t)) : zS (fun i => A (K + 3) i * A 12 i / 1000) 40 - zS (fun i => A (K + 2) i * A 12 i / 1000) 40 = mByR N o := by
  have w0 := hW.1
  unfold mByR
  rw [if_neg (by omega), ← zS_sub]
  have e := zS_tail (y := N 0 - 1) (f := fun i => A (K + 3) i * A 12 i / 1000 - A (K + 2) i * A 12 i / 1000) (g := fun t => N (1275 + 40 * o + t) * N (5 + 40 * o + t) / 1000 - N (1155 + 40 * o + t) * N (5 + 40 * o + t) / 1000) (by omega) (by omega) (fun t a b => by
    have q := h t a (by omega)
    rw [if_neg (by omega), if_neg (by omega)] at q
    show A (K + 3) t * A 12 t / 1000 - A (K + 2) t * A 12 t / 1000 = 0
    rw [q.1, q.2]
    simp) (fun t a b => by
    have q := h t (by omega) b
    rw [if_pos (by omega), if_pos (by omega)] at q
    show A (K + 3) t * A 12 t / 1000 - A (K + 2) t * A 12 t / 1000 = _
    rw [q.1, q.2, hr t (by omega) b])
  rw [e, show (39 - (N 0 - 1)).toNat = (40 - N 0).toNat by omega]
  refine zS_congr _ (fun i a b => ?_)
  unfold mByT
  rw [show N 0 - 1 + 1 + i = N 0 + i by omega]
