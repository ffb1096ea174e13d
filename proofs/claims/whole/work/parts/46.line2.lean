theorem tN_b {b : Int → Int} {n p : Int} (h : 2 ≤ tK b n p) : tN b n p ≤ n := by
  have z := tE_b (b := b) (n := n) (n - tF b n p).toNat (tF b n p)
  have g : tF b n p < n := by
    unfold tK at h
    by_cases c1 : 600 < n ∧ 600 ≤ tF b n p
    · rw [if_pos c1] at h; omega
    · rw [if_neg c1] at h
      by_cases c2 : n ≤ tF b n p
      · rw [if_pos c2] at h; omega
      · omega
  unfold tN tE
  split <;> omega
theorem tAt.sort {FI : zFI} {b : Int → Int} {n p : Int} (h : tAt FI b n p) : (FI 100 6 = 1 ↔ tK b n p = 0) ∧ (FI 100 6 = 0 ↔ tK b n p = 1) ∧ (FI 100 6 = 2 ↔ tK b n p = 2) ∧ (FI 100 6 = 3 ↔ tK b n p = 3) ∧ (FI 100 6 = 4 ↔ tK b n p = 4) ∧ FI 100 5 = tP b n p := by
  have e := h.2.2.1
  have k := tK_b (b := b) (n := n) (p := p)
  have m0 := mso_b k 0
  have m1 := mso_b k 1
  have m2 := mso_b k 2
  have m3 := mso_b k 3
  have m4 := mso_b k 4
  rw [e]
  refine ⟨by omega, by omega, by omega, by omega, by omega, h.2.1⟩
/-- what the reading of a text may change of the reference's fields -/
def zFt (FI FI1 : zFI) : Prop := ∀ o j, o ≠ 100 ∨ j < 4 ∨ (10 < j ∧ j ≠ 15) → FI1 o j = FI o j
theorem zFf.t {FI F1 : zFI} (h : zFf FI F1) : zFt FI F1 := fun o j a => h o j (by omega)
theorem zFt.rfl {FI : zFI} : zFt FI FI := fun _ _ _ => Eq.refl _
theorem zFt.trans {FI F1 F2 : zFI} (h : zFt FI F1) (g : zFt F1 F2) : zFt FI F2 := fun o j a => (g o j a).trans (h o j a)
theorem zFt.set {FI F1 : zFI} (h : zFt FI F1) {j : Nat} {x : Int} (hj : (4 ≤ j ∧ j ≤ 10) ∨ j = 15) : zFt FI (zsF F1 100 j x) := fun o k a => by
  unfold zsF
  rw [if_neg (by omega)]
  exact h o k a
def zFo (FI FI1 : zFI) : Prop := ∀ o j, o ≠ 100 ∨ (j ≠ 4 ∧ j ≠ 5 ∧ j ≠ 6 ∧ j ≠ 7 ∧ j ≠ 10 ∧ j ≠ 15) → FI1 o j = FI o j
theorem zFf.o {FI F1 : zFI} (h : zFf FI F1) : zFo FI F1 := fun o j a => h o j (by omega)
theorem zFo.t {FI F1 : zFI} (h : zFo FI F1) : zFt FI F1 := fun o j a => h o j (by omega)
theorem zFo.rfl {FI : zFI} : zFo FI FI := fun _ _ _ => Eq.refl _
theorem zFo.trans {FI F1 F2 : zFI} (h : zFo FI F1) (g : zFo F1 F2) : zFo FI F2 := fun o j a => (g o j a).trans (h o j a)
theorem zFo.set15 {FI F1 : zFI} (h : zFo FI F1) {x : Int} : zFo FI (zsF F1 100 15 x) := fun o k a => by
  unfold zsF
  rw [if_neg (by omega)]
  exact h o k a
/-- a field that no token stands in -/
theorem tAt.set {FI : zFI} {b : Int → Int} {n p : Int} (h : tAt FI b n p) {j : Nat} {x : Int} (hj : j = 8 ∨ j = 9 ∨ j = 15) : tAt (zsF FI 100 j x) b n p := by
  have e : ∀ k : Nat, k = 3 ∨ k = 4 ∨ k = 5 ∨ k = 6 ∨ k = 7 ∨ k = 10 → zsF FI 100 j x 100 k = FI 100 k := fun k hk => by
    unfold zsF
    rw [if_neg (by omega)]
  unfold tAt
  rw [e 3 (by decide), e 4 (by decide), e 5 (by decide), e 6 (by decide), e 7 (by decide), e 10 (by decide)]
  exact h
theorem lOk_1 {b : Int → Int} {n p : Int} {N : Int → Int} {L : Int} (h : zKw b n p 1) (hL : L = 1 + N 2) : lOk b n p N L 1 := ⟨by decide, h, hL⟩
theorem lOk_0 {b : Int → Int} {n p : Int} {N : Int → Int} (h : zKw b n p 0) : lOk b n p N 0 0 := ⟨by decide, h, rfl⟩
theorem lOk_j {b : Int → Int} {n p : Int} {N : Int → Int} {L : Int} {j : Nat} (h : zKw b n p j) (hj : 2 ≤ j ∧ j < 7) (hL : 2 ≤ L) : lOk b n p N L j := ⟨hj.2, h, by rw [if_neg (by omega), if_neg (by omega)]; exact hL⟩
theorem sBd_n {b : Int → Int} {n p1 f : Int} {j : Nat} (k : Nat) {flt pl : Int} (hk : k < sln j) (hs : sSt b n p1 f j k) (hn : ¬ sNum b n (tI b n p1 k) (slo j (sV b n p1) k) (shi j f k)) (h1 : flt = (if tK b n (tI b n p1 k) = 3 then 2 else 1)) (h2 : pl = tP b n (tI b n p1 k)) : sBd b n p1 f j flt pl := Or.inl ⟨k, hk, hs, hn, h1, h2⟩
theorem lF_s {b : Int → Int} {n p : Int} {N : Int → Int} {L : Int} {j : Nat} {flt pl : Int} (h : lOk b n p N L j) (hf : ¬ lFull N j) (hs : sBd b n (tN b n p) (N 2) j flt pl) : lFault b n p N L flt pl := Or.inr ⟨j, h, Or.inr ⟨hf, hs⟩⟩
theorem lF_f {b : Int → Int} {n p : Int} {N : Int → Int} {L : Int} {j : Nat} (h : lOk b n p N L j) (hf : lFull N j) : lFault b n p N L 3 (tP b n p) := Or.inr ⟨j, h, Or.inl ⟨hf, rfl, rfl⟩⟩
theorem lF_1 {b : Int → Int} {n p : Int} {N : Int → Int} {L f : Int} (h : ∀ j : Nat, ¬ lOk b n p N L j) (g : ¬ (tK b n p = 1 ∧ 2 ≤ L)) (hf : f = 1) : lFault b n p N L f (tP b n p) := Or.inl ⟨h, g, hf, rfl⟩
theorem lNo_0 {b : Int → Int} {n p : Int} {N : Int → Int} (h : ¬ zKw b n p 0) (h2 : 0 ≤ N 2) : ∀ j : Nat, ¬ lOk b n p N 0 j := fun j z => by
  obtain ⟨z1, z2, z3⟩ := z
  by_cases e : j = 0
  · subst e; exact h z2
  · rw [if_neg e] at z3
    by_cases e1 : j = 1
    · rw [if_pos e1] at z3; omega
    · rw [if_neg e1] at z3; omega
theorem lNo_1 {b : Int → Int} {n p : Int} {N : Int → Int} (h : ¬ zKw b n p 1) : ∀ j : Nat, ¬ lOk b n p N 1 j := fun j z => by
  obtain ⟨z1, z2, z3⟩ := z
  by_cases e : j = 0
  · rw [if_pos e] at z3; omega
  · rw [if_neg e] at z3
    by_cases e1 : j = 1
    · subst e1; exact h z2
    · rw [if_neg e1] at z3; omega
theorem lNo_2 {b : Int → Int} {n p : Int} {N : Int → Int} {L : Int} (hL : 2 ≤ L) (h : ¬ (zKw b n p 1 ∧ L = 1 + N 2)) (h2 : ∀ j : Nat, 2 ≤ j → j < 7 → ¬ zKw b n p j) : ∀ j : Nat, ¬ lOk b n p N L j := fun j z => by
  obtain ⟨z1, z2, z3⟩ := z
  by_cases e : j = 0
  · rw [if_pos e] at z3; omega
  · rw [if_neg e] at z3
    by_cases e1 : j = 1
    · rw [if_pos e1] at z3
      subst e1
      exact h ⟨z2, z3⟩
    · exact h2 j (by omega) z1 z2
