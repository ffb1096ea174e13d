/-! the bytes of both tapes -/
theorem zbm2 (x : Int) : Int.bmod (Int.bmod x 256) 256 % 256 = x % 256 := by
  rw [Int.bmod_def, Int.bmod_def]
  split <;> split <;> omega
theorem zcl_rel {A C : zAI} {t w : Int} (h : ∀ j : Int, 0 ≤ j → j < t → A 2 j % 256 = C 101 j) : ∀ j : Int, 0 ≤ j → j < t + 4 → zcl A t w 2 j % 256 = zlay C 101 t w 101 j := fun j a b => by
  unfold zcl zlay
  rcases (show j < t ∨ j = t ∨ j = t + 1 ∨ j = t + 1 + 1 ∨ j = t + 1 + 1 + 1 by omega) with e | e | e | e | e
  · simp (disch := omega) only [zsA_nj]
    exact h j a e
  · subst e
    simp (disch := omega) only [zsA_nj, zsA_eq]
    rw [zbm2]
    rfl
  · subst e
    simp (disch := omega) only [zsA_nj, zsA_eq]
    rw [zbm2]
    rfl
  · subst e
    simp (disch := omega) only [zsA_nj, zsA_eq]
    rw [zbm2]
    rfl
  · subst e
    rw [zsA_eq, zsA_eq, zbm2]
    rfl
theorem zlay_b {C : zAI} {t w : Int} (h : ∀ i : Int, 0 ≤ C 101 i ∧ C 101 i ≤ 255) : ∀ i : Int, 0 ≤ zlay C 101 t w 101 i ∧ zlay C 101 t w 101 i ≤ 255 := fun i => by
  have q := h i
  have z : ∀ k : Int, 0 ≤ zby w k ∧ zby w k ≤ 255 := fun k => by unfold zby; omega
  unfold zlay zsA
  repeat (first | exact q | exact z _ | split)
theorem zlay_ne {C : zAI} {t w : Int} {a : Nat} (h : a ≠ 101) : zlay C 101 t w a = C a := by
  unfold zlay
  rw [zsA_neF h, zsA_neF h, zsA_neF h, zsA_neF h]
theorem zcl_ne {C : zAI} {t w : Int} {a : Nat} (h : a ≠ 2) : zcl C t w a = C a := by
  unfold zcl
  rw [zsA_neF h, zsA_neF h, zsA_neF h, zsA_neF h]
