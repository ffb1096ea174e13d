/-! TOKENS in the class's reader -/
def rFr (F0 F : zFI) : Prop := ∀ o j, o ≠ 3 ∨ j < 3 ∨ 6 < j → F o j = F0 o j
theorem rFr.rfl {F : zFI} : rFr F F := fun _ _ _ => Eq.refl _
theorem rFr.trans {F0 F1 F2 : zFI} (h : rFr F0 F1) (g : rFr F1 F2) : rFr F0 F2 := fun o j a => (g o j a).trans (h o j a)
theorem rFr.set {F0 F : zFI} (h : rFr F0 F) {j : Nat} {x : Int} (hj : 3 ≤ j ∧ j ≤ 6) : rFr F0 (zsF F 3 j x) := fun o k a => (zsF_ne (by omega)).trans (h o k a)
def rAt (F : zFI) (b : Int → Int) (n p : Int) : Prop := F 3 6 = tP b n p ∧ F 3 4 = tK b n p ∧ (2 ≤ tK b n p → F 3 3 = tN b n p) ∧ (tK b n p = 3 → F 3 5 = tV b n p)
def rKd (b : Int → Int) (q : Int) (R : Nat) : Int := if 0 < R ∧ zdg b q R = 0 then 2 else if 0 < R ∧ zdg b q R = R ∧ R ≤ 5 then 3 else 0
/-- a value as its digits allow -/
def rVb (dg v : Int) : Prop := (dg = 0 ∧ v = 0) ∨ (dg = 1 ∧ 0 ≤ v ∧ v ≤ 9) ∨ (dg = 2 ∧ 0 ≤ v ∧ v ≤ 99) ∨ (dg = 3 ∧ 0 ≤ v ∧ v ≤ 999) ∨ (dg = 4 ∧ 0 ≤ v ∧ v ≤ 9999) ∨ (dg = 5 ∧ 0 ≤ v ∧ v ≤ 99999) ∨ (5 < dg ∧ v = 0)
