/-! THE CLASS: a book at handle B (its arrays at B + 1 .. B + 4) stands for a row N of the reference -/
def bLay (T : zTt) (FR : zFR) (B : Nat) : Prop := T B = (1, 1) ∧ T (B + 1) = (2, 120) ∧ T (B + 2) = (2, 120) ∧ T (B + 3) = (2, 150) ∧ T (B + 4) = (2, 40) ∧ FR B 0 = some (B + 1) ∧ FR B 1 = some (B + 2) ∧ FR B 2 = some (B + 3) ∧ FR B 3 = some (B + 4)
def bk (FI : zFI) (AI : zAI) (B : Nat) (N : Int → Int) : Prop := FI B 4 = N 0 ∧ FI B 5 = N 1 ∧ FI B 6 = N 2 ∧ FI B 7 = N 3 ∧ FI B 8 = N 4 ∧ (∀ o y : Int, 0 ≤ o → o < N 2 → 0 ≤ y → y < 40 → AI (B + 1) (o * 40 + y) = N (5 + 40 * o + y)) ∧ (∀ o y : Int, 0 ≤ o → o < 3 → 0 ≤ y → y < 40 → AI (B + 2) (o * 40 + y) = N (125 + 40 * o + y)) ∧ (∀ i f : Int, 0 ≤ i → i < N 3 → 0 ≤ f → f < 5 → AI (B + 3) (i * 5 + f) = N (245 + 5 * i + f)) ∧ (∀ l f : Int, 0 ≤ l → l < N 4 → 0 ≤ f → f < 4 → AI (B + 4) (l * 4 + f) = N (395 + 4 * l + f))
/-- a book sees only its own fields and arrays -/
theorem bk_fr {FI F1 : zFI} {AI A1 : zAI} {B : Nat} {N : Int → Int} (h : bk FI AI B N) (hF : ∀ j, 4 ≤ j → j ≤ 8 → F1 B j = FI B j) (hA : ∀ a, B + 1 ≤ a → a ≤ B + 4 → A1 a = AI a) : bk F1 A1 B N := by
  obtain ⟨k0, k1, k2, k3, k4, k5, k6, k7, k8⟩ := h
  unfold bk
  rw [hF 4 (by omega) (by omega), hF 5 (by omega) (by omega), hF 6 (by omega) (by omega), hF 7 (by omega) (by omega), hF 8 (by omega) (by omega), hA (B + 1) (by omega) (by omega), hA (B + 2) (by omega) (by omega), hA (B + 3) (by omega) (by omega), hA (B + 4) (by omega) (by omega)]
  exact ⟨k0, k1, k2, k3, k4, k5, k6, k7, k8⟩
/-- a book's row may have other closings -/
theorem bk_same {FI : zFI} {AI : zAI} {B : Nat} {N N1 : Int → Int} (h : bk FI AI B N) (hb : N 2 ≤ 3 ∧ N 3 ≤ 30 ∧ N 4 ≤ 10) (hS : zSame N N1) : bk FI AI B N1 := by
  obtain ⟨k0, k1, k2, k3, k4, k5, k6, k7, k8⟩ := h
  unfold bk
  rw [hS 0 (by omega) (by omega), hS 1 (by omega) (by omega), hS 2 (by omega) (by omega), hS 3 (by omega) (by omega), hS 4 (by omega) (by omega)]
  refine ⟨k0, k1, k2, k3, k4, fun o y a b c d => ?_, fun o y a b c d => ?_, fun i f a b c d => ?_, fun i f a b c d => ?_⟩
  · rw [hS _ (by omega) (by omega)]; exact k5 o y a b c d
  · rw [hS _ (by omega) (by omega)]; exact k6 o y a b c d
  · rw [hS _ (by omega) (by omega)]; exact k7 i f a b c d
  · rw [hS _ (by omega) (by omega)]; exact k8 i f a b c d
