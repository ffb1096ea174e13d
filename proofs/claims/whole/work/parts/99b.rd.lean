/-! what a line makes of a book -/
theorem zu1_comm {N : Int → Int} {a b x y : Int} (h : a ≠ b) : zu1 (zu1 N a x) b y = zu1 (zu1 N b y) a x := by
  funext i
  by_cases c : i = a
  · subst c
    rw [zu1_ne h, zu1_eq, zu1_eq]
  · by_cases c2 : i = b
    · subst c2
      rw [zu1_eq, zu1_ne c, zu1_eq]
    · rw [zu1_ne c2, zu1_ne c, zu1_ne c, zu1_ne c2]
theorem nLn_0 {N : Int → Int} {V : Nat → Int} : nLn 0 N V = zu1 N 1 (V 0) := rfl
theorem nLn_1 {N : Int → Int} {V : Nat → Int} : nLn 1 N V = zu1 (zfl N (5 + 40 * N 2 + 0) (5 + 40 * N 2 + 40) (V 0)) 2 (N 2 + 1) := rfl
theorem nLn_2 {N : Int → Int} {V : Nat → Int} : nLn 2 N V = zfl N (5 + 40 * V 0 + V 1) (5 + 40 * V 0 + 40) (V 2) := rfl
theorem nLn_3 {N : Int → Int} {V : Nat → Int} : nLn 3 N V = zu1 N (125 + 40 * V 0 + V 1) (V 2) := rfl
theorem nLn_6 {N : Int → Int} {V : Nat → Int} : nLn 6 N V = nLoss N (V 0) (V 1) (V 2) := rfl
theorem nLn_4 {N : Int → Int} {V : Nat → Int} : nLn 4 N V = nArise N (V 0) 1 (V 1) (V 2) (V 3) := by
  show zu1 (zu1 (zu1 (zu1 (zu1 (zu1 N (245 + 5 * N 3 + 0) (V 0)) (245 + 5 * N 3 + 2) (V 1)) (245 + 5 * N 3 + 3) (V 2)) (245 + 5 * N 3 + 4) (V 3)) (245 + 5 * N 3 + 1) 1) 3 (N 3 + 1) = _
  rw [zu1_comm (a := 245 + 5 * N 3 + 4) (b := 245 + 5 * N 3 + 1) (by omega), zu1_comm (a := 245 + 5 * N 3 + 3) (b := 245 + 5 * N 3 + 1) (by omega), zu1_comm (a := 245 + 5 * N 3 + 2) (b := 245 + 5 * N 3 + 1) (by omega)]
  rfl
theorem nLn_5 {N : Int → Int} {V : Nat → Int} : nLn 5 N V = nArise N (V 0) 0 (V 1) (V 2) (V 3) := by
  show zu1 (zu1 (zu1 (zu1 (zu1 (zu1 N (245 + 5 * N 3 + 0) (V 0)) (245 + 5 * N 3 + 2) (V 1)) (245 + 5 * N 3 + 3) (V 2)) (245 + 5 * N 3 + 4) (V 3)) (245 + 5 * N 3 + 1) 0) 3 (N 3 + 1) = _
  rw [zu1_comm (a := 245 + 5 * N 3 + 4) (b := 245 + 5 * N 3 + 1) (by omega), zu1_comm (a := 245 + 5 * N 3 + 3) (b := 245 + 5 * N 3 + 1) (by omega), zu1_comm (a := 245 + 5 * N 3 + 2) (b := 245 + 5 * N 3 + 1) (by omega)]
  rfl
theorem bk_carry {FI : zFI} {AI : zAI} {B : Nat} {N : Int → Int} {x : Int} (h : bk FI AI B N) : bk (zsF FI B 5 x) AI B (zu1 N 1 x) := by
  obtain ⟨k0, k1, k2, k3, k4, k5, k6, k7, k8⟩ := h
  have e : ∀ j : Int, j ≠ 1 → zu1 N 1 x j = N j := fun j hj => zu1_ne hj
  unfold bk
  rw [e 0 (by omega), zu1_eq, e 2 (by omega), e 3 (by omega), e 4 (by omega)]
  refine ⟨(zsF_ne (by omega)).trans k0, zsF_eq, (zsF_ne (by omega)).trans k2, (zsF_ne (by omega)).trans k3, (zsF_ne (by omega)).trans k4, fun o y a b c d => ?_, fun o y a b c d => ?_, fun i f a b c d => ?_, fun i f a b c d => ?_⟩
  · rw [e _ (by omega)]; exact k5 o y a b c d
  · rw [e _ (by omega)]; exact k6 o y a b c d
  · rw [e _ (by omega)]; exact k7 i f a b c d
  · rw [e _ (by omega)]; exact k8 i f a b c d
theorem bk_office {FI : zFI} {AI : zAI} {B : Nat} {N : Int → Int} {r : Int} (h : bk FI AI B N) (h0 : 0 ≤ N 2) (h1 : N 2 < 3) : bk (zsF FI B 6 (N 2 + 1)) (zfill AI (B + 1) (N 2 * 40 + 0) (N 2 * 40 + 40) r) B (zu1 (zfl N (5 + 40 * N 2 + 0) (5 + 40 * N 2 + 40) r) 2 (N 2 + 1)) := by
  obtain ⟨k0, k1, k2, k3, k4, k5, k6, k7, k8⟩ := h
  have e : ∀ j : Int, (j < 5 ∨ 125 ≤ j) → j ≠ 2 → zu1 (zfl N (5 + 40 * N 2 + 0) (5 + 40 * N 2 + 40) r) 2 (N 2 + 1) j = N j := fun j hj h2 => (zu1_ne h2).trans (if_neg (by omega))
  unfold bk
  rw [e 0 (by omega) (by omega), e 1 (by omega) (by omega), zu1_eq, e 3 (by omega) (by omega), e 4 (by omega) (by omega), zfill_neF (show B + 2 ≠ B + 1 by omega), zfill_neF (show B + 3 ≠ B + 1 by omega), zfill_neF (show B + 4 ≠ B + 1 by omega), zfill_eqF]
  refine ⟨(zsF_ne (by omega)).trans k0, (zsF_ne (by omega)).trans k1, zsF_eq, (zsF_ne (by omega)).trans k3, (zsF_ne (by omega)).trans k4, fun o y a b c d => ?_, fun o y a b c d => ?_, fun i f a b c d => ?_, fun i f a b c d => ?_⟩
  · rw [zu1_ne (by omega)]
    unfold zfl
    by_cases c1 : o = N 2
    · rw [if_pos (by omega), if_pos (by omega)]
    · rw [if_neg (by omega), if_neg (by omega)]; exact k5 o y a (by omega) c d
  · rw [e _ (by omega) (by omega)]; exact k6 o y a b c d
  · rw [e _ (by omega) (by omega)]; exact k7 i f a b c d
  · rw [e _ (by omega) (by omega)]; exact k8 i f a b c d
/-! the signs of a line's word, of its numbers -/
theorem zCh_k0 : ∀ j : Nat, j < 7 → ∀ i : Nat, i < 10 → ((zByt.getD j []).getD i 0).toInt = (kws.getD j []).getD i 0 := by decide +kernel
theorem zCh_k {j : Nat} {i : Int} (hj : j < 7) (h1 : i < 10) : zCh j i = kch j i := zCh_k0 j hj i.toNat (by omega)
theorem zBl_k0 : ∀ j : Nat, j < 7 → (zByt.getD j []).length = kln j := by decide
theorem zSl_k0 : ∀ j : Nat, j < 7 → zSlo.getD j 0 < 13 ∧ (zByt.getD (zSlo.getD j 0) []).length = sln j ∧ sln j ≤ 4 := by decide
theorem zCh_s0 : ∀ j : Nat, j < 7 → ∀ k : Nat, k < sln j → ((zByt.getD (zSlo.getD j 0) []).getD k 0).toInt = (if j = 0 then 78 else if j = 1 then 82 else if k = 0 then 79 else if j = 2 then (if k = 1 then 89 else 82) else if j = 3 then (if k = 1 then 89 else 83) else if k = 1 then 83 else if k = 2 then 70 else 76) := by decide +kernel
theorem zLe_s {j : Nat} {k : Nat} {V : Nat → Int} {X : Int} (hj : j < 7) (hk : k < sln j) (hX : k = 3 → X = V 2) : (if zCh (zSlo.getD j 0) (k : Int) = 83 then 1 else if zCh (zSlo.getD j 0) (k : Int) = 70 then 1 else if zCh (zSlo.getD j 0) (k : Int) = 76 then X else 0) = slo j V k := by
  have e : zCh (zSlo.getD j 0) (k : Int) = _ := zCh_s0 j hj k hk
  have z := (zSl_k0 j hj).2.2
  rw [e]
  rcases (show j = 0 ∨ j = 1 ∨ j = 2 ∨ j = 3 ∨ j = 4 ∨ j = 5 ∨ j = 6 by omega) with q | q | q | q | q | q | q <;> subst q <;> rcases (show k = 0 ∨ k = 1 ∨ k = 2 ∨ k = 3 by omega) with q | q | q | q <;> subst q <;> first | (exfalso; revert hk; decide) | (simp [slo]; done) | (simp [slo]; exact hX rfl)
theorem zMo_s {j : Nat} {k : Nat} {f : Int} (hj : j < 7) (hk : k < sln j) : (if zCh (zSlo.getD j 0) (k : Int) = 78 then 20 else if zCh (zSlo.getD j 0) (k : Int) = 82 then 900 else if zCh (zSlo.getD j 0) (k : Int) = 79 then f - 1 else if zCh (zSlo.getD j 0) (k : Int) = 83 then 99999 else 39) = shi j f k := by
  have e : zCh (zSlo.getD j 0) (k : Int) = _ := zCh_s0 j hj k hk
  have z := (zSl_k0 j hj).2.2
  rw [e]
  rcases (show j = 0 ∨ j = 1 ∨ j = 2 ∨ j = 3 ∨ j = 4 ∨ j = 5 ∨ j = 6 by omega) with q | q | q | q | q | q | q <;> subst q <;> rcases (show k = 0 ∨ k = 1 ∨ k = 2 ∨ k = 3 by omega) with q | q | q | q <;> subst q <;> first | (exfalso; revert hk; decide) | (simp [shi]; done)
/-- the two books are exchanged -/
theorem dLay_x {T : zTt} {FR : zFR} {B D : Nat} (h : dLay T FR B D) : dLay T (zsR (zsR FR 3 2 (some B)) 0 5 (some D)) D B := by
  have e : ∀ o j, o ≠ 3 ∨ j ≠ 2 → o ≠ 0 ∨ j ≠ 5 → zsR (zsR FR 3 2 (some B)) 0 5 (some D) o j = FR o j := fun o j h1 h2 => by unfold zsR; rw [if_neg (by omega), if_neg (by omega)]
  have e5 : zsR (zsR FR 3 2 (some B)) 0 5 (some D) 0 5 = some D := rfl
  have e6 : zsR (zsR FR 3 2 (some B)) 0 5 (some D) 3 2 = some B := rfl
  unfold dLay at h ⊢
  rw [e5, e6, e 0 0 (by omega) (by omega), e 0 1 (by omega) (by omega), e 0 2 (by omega) (by omega), e 0 3 (by omega) (by omega), e 0 4 (by omega) (by omega), e 1 0 (by omega) (by omega), e 3 0 (by omega) (by omega), e 14 0 (by omega) (by omega), e 3 1 (by omega) (by omega)]
  obtain ⟨q1, q2, q3, q4, q5, q6, q7, q8, q9, q10, q11, q12, q13, q14, q15, q16, q17, q18, q19⟩ := h
  exact ⟨q1, q2, q3, q4, q5, q6, q7, q8, q9, q10, q11, q12, q13, rfl, rfl, q16, q17, q18, q19⟩
theorem bLay_fr {T : zTt} {FR FR1 : zFR} {B : Nat} (h : bLay T FR B) (e : ∀ j, FR1 B j = FR B j) : bLay T FR1 B := by
  unfold bLay
  rw [e 0, e 1, e 2, e 3]
  exact h
