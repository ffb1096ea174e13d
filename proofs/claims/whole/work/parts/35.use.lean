/-! INCOME USES LOSSES: the earliest last year first, of like ones by number. el: those that may be used; ls: last years; lf: what was left -/
/-- what is ahead of loss l -/
def zbef (el ls lf : Int → Int) (nL : Nat) (l : Int) : Int := zS (fun q => if el q = 1 ∧ (ls q < ls l ∨ (ls q = ls l ∧ q < l)) then lf q else 0) nL
/-- what is taken of loss l, if u is taken of all -/
def ztk (el ls lf : Int → Int) (nL : Nat) (u l : Int) : Int := if el l = 1 then max 0 (min (lf l) (u - zbef el ls lf nL l)) else 0
theorem ztk_0 {el ls lf : Int → Int} {nL : Nat} (h : ∀ l : Int, 0 ≤ l → l < nL → 0 ≤ lf l) {l : Int} (h0 : 0 ≤ l) (h1 : l < nL) : ztk el ls lf nL 0 l = 0 := by
  have hb : 0 ≤ zbef el ls lf nL l := zS_nn nL (fun i a b => by have := h i a b; split <;> omega)
  have := h l h0 h1
  unfold ztk
  split <;> omega
theorem ztk_b {el ls lf : Int → Int} {nL : Nat} {u l : Int} (h : 0 ≤ lf l) : 0 ≤ ztk el ls lf nL u l ∧ ztk el ls lf nL u l ≤ lf l := by
  unfold ztk
  split <;> omega
/-- what is ahead of an earlier one, and that one, is ahead of a later one -/
theorem zbef_lt {el ls lf : Int → Int} {nL : Nat} (h : ∀ l : Int, 0 ≤ l → l < nL → 0 ≤ lf l) {b q : Int} (hb0 : 0 ≤ b) (hb1 : b < nL) (he : el b = 1) (hq : ls b < ls q ∨ (ls b = ls q ∧ b < q)) : zbef el ls lf nL b + lf b ≤ zbef el ls lf nL q := by
  have e : zbef el ls lf nL b + lf b = zS (fun i => (if el i = 1 ∧ (ls i < ls b ∨ (ls i = ls b ∧ i < b)) then lf i else 0) + (if i = b then lf b else 0)) nL := by
    rw [zS_add]
    congr 1
    have g := zS_upd (f := fun _ => (0 : Int)) (g := fun i => if i = b then lf b else 0) nL b hb0 hb1 (fun i _ _ hi => if_neg hi)
    rw [g, zS_zero]
    simp
  rw [e]
  refine zS_le nL (fun i a c => ?_)
  have hi := h i a c
  by_cases e1 : i = b
  · subst e1
    rw [if_neg (by omega), if_pos rfl, if_pos ⟨he, hq⟩]; omega
  · rw [if_neg e1, Int.add_zero]
    by_cases c1 : el i = 1 ∧ (ls i < ls b ∨ (ls i = ls b ∧ i < b))
    · rw [if_pos c1, if_pos ⟨c1.1, by omega⟩]; exact Int.le_refl _
    · rw [if_neg c1]; split <;> omega
/-- one more step: the earliest that has something left gives v -/
theorem ztk_step {el ls lf : Int → Int} {nL : Nat} {u b v : Int} (h : ∀ l : Int, 0 ≤ l → l < nL → 0 ≤ lf l) (hu : u = zS (ztk el ls lf nL u) nL) (hb0 : 0 ≤ b) (hb1 : b < nL) (he : el b = 1) (hlf : 0 < lf b - ztk el ls lf nL u b)
    (hmin : ∀ q : Int, 0 ≤ q → q < nL → el q = 1 → (ls q < ls b ∨ (ls q = ls b ∧ q < b)) → lf q - ztk el ls lf nL u q = 0) (hv0 : 0 < v) (hv1 : v ≤ lf b - ztk el ls lf nL u b) :
    (∀ q : Int, 0 ≤ q → q < nL → ztk el ls lf nL (u + v) q = ztk el ls lf nL u q + (if q = b then v else 0)) ∧ u + v = zS (ztk el ls lf nL (u + v)) nL := by
  have hbu : zbef el ls lf nL b ≤ u := by
    have g : zbef el ls lf nL b ≤ zS (ztk el ls lf nL u) nL := zS_le nL (fun q a c => by
      have t := ztk_b (el := el) (ls := ls) (nL := nL) (u := u) (h q a c)
      by_cases c1 : el q = 1 ∧ (ls q < ls b ∨ (ls q = ls b ∧ q < b))
      · rw [if_pos c1]; have := hmin q a c c1.1 c1.2; omega
      · rw [if_neg c1]; exact t.1)
    omega
  have key : ∀ q : Int, 0 ≤ q → q < nL → ztk el ls lf nL (u + v) q = ztk el ls lf nL u q + (if q = b then v else 0) := by
    intro q a c
    have hq := h q a c
    by_cases e1 : q = b
    · subst e1
      rw [if_pos rfl]
      unfold ztk at hlf hv1 ⊢
      rw [if_pos he] at hlf hv1 ⊢
      rw [if_pos he]
      omega
    · rw [if_neg e1, Int.add_zero]
      by_cases ce : el q = 1
      · by_cases c1 : ls q < ls b ∨ (ls q = ls b ∧ q < b)
        · have g := hmin q a c ce c1
          unfold ztk at g ⊢
          rw [if_pos ce] at g ⊢
          rw [if_pos ce]
          omega
        · have g := zbef_lt (ls := ls) h hb0 hb1 he (q := q) (by omega)
          unfold ztk at hlf hv1 ⊢
          rw [if_pos he] at hlf hv1
          rw [if_pos ce, if_pos ce]
          omega
      · unfold ztk
        rw [if_neg ce, if_neg ce]
  refine ⟨key, ?_⟩
  rw [zS_congr (g := fun q => ztk el ls lf nL u q + (if q = b then v else 0)) nL key, zS_add, ← hu]
  have g := zS_upd (f := fun _ => (0 : Int)) (g := fun i => if i = b then v else 0) nL b hb0 hb1 (fun i _ _ hi => if_neg hi)
  rw [g, zS_zero]
  simp
/-- nothing is left: all that may be used has been, whatever more there is to take -/
theorem ztk_end {el ls lf : Int → Int} {nL : Nat} {u w : Int} (h : ∀ l : Int, 0 ≤ l → l < nL → 0 ≤ lf l) (hn : ∀ q : Int, 0 ≤ q → q < nL → el q = 1 → lf q - ztk el ls lf nL u q = 0) (hw : u ≤ w) {q : Int} (a : 0 ≤ q) (c : q < nL) : ztk el ls lf nL w q = ztk el ls lf nL u q := by
  have hq := h q a c
  by_cases ce : el q = 1
  · have g := hn q a c ce
    unfold ztk at g ⊢
    rw [if_pos ce] at g ⊢
    rw [if_pos ce]
    omega
  · unfold ztk
    rw [if_neg ce, if_neg ce]
/-- the row behind it: of each loss what is left -/
def zUsd (N N' : Int → Int) (nL : Nat) (f : Int → Int) : Prop := (∀ l : Int, 0 ≤ l → l < nL → N' (395 + 4 * l + 3) = f l) ∧ ∀ j : Int, (∀ l : Int, 0 ≤ l → l < nL → j ≠ 395 + 4 * l + 3) → N' j = N j
/-- of an office, not lapsed -/
def mEl (N : Int → Int) (o y l : Int) : Int := if N (395 + 4 * l + 0) = o ∧ y ≤ N (395 + 4 * l + 2) then 1 else 0
def mLs (N : Int → Int) (l : Int) : Int := N (395 + 4 * l + 2)
def mLf (N : Int → Int) (l : Int) : Int := N (395 + 4 * l + 3)
/-- what is left of loss l when so much income has used the losses of office o in year y -/
def mLeft (N : Int → Int) (nL : Nat) (o y inc l : Int) : Int := mLf N l - ztk (mEl N o y) (mLs N) (mLf N) nL inc l
def mInc (N : Int → Int) (nI : Nat) (o : Int) : Int := N (125 + 40 * o + N 0) + zPs (mIt N) nI o (N 0) 1 - zPs (mIt N) nI o (N 0) 0
def nB1 (N : Int → Int) (nI : Nat) (o : Int) : Int → Int := zu1 N (435 + 240 * o + 6 * N 0 + 5) (mInc N nI o)
