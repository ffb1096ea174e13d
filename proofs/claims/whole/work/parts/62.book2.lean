/-! what changes a book -/
theorem bk_setI {FI : zFI} {AI : zAI} {B : Nat} {N : Int → Int} {o : Nat} {j : Nat} {x : Int} (h : bk FI AI B N) (ho : o ≠ B) : bk (zsF FI o j x) AI B N := bk_fr h (fun _ _ _ => zsF_ne (Or.inl (fun e => ho e.symm))) (fun _ _ _ => rfl)
theorem bk_setA {FI : zFI} {AI : zAI} {B a : Nat} {N : Int → Int} {f : Int → Int} (h : bk FI AI B N) (ha : a < B + 1 ∨ B + 4 < a) : bk FI (zrow AI a f) B N := bk_fr h (fun _ _ _ => rfl) (fun c _ _ => zrow_neF (by omega))
/-- rates of an office -/
theorem bk_rate {FI : zFI} {AI : zAI} {B : Nat} {N : Int → Int} {o y r : Int} (h : bk FI AI B N) (hb : N 2 ≤ 3) (h0 : 0 ≤ o) (h1 : o < 3) (h2 : 0 ≤ y) : bk FI (zfill AI (B + 1) (o * 40 + y) (o * 40 + 40) r) B (zfl N (5 + 40 * o + y) (5 + 40 * o + 40) r) := by
  obtain ⟨k0, k1, k2, k3, k4, k5, k6, k7, k8⟩ := h
  have e : ∀ j, (j < 5 ∨ 125 ≤ j) → zfl N (5 + 40 * o + y) (5 + 40 * o + 40) r j = N j := fun j hj => if_neg (by omega)
  unfold bk
  rw [e 0 (by omega), e 1 (by omega), e 2 (by omega), e 3 (by omega), e 4 (by omega), zfill_neF (show B + 2 ≠ B + 1 by omega), zfill_neF (show B + 3 ≠ B + 1 by omega), zfill_neF (show B + 4 ≠ B + 1 by omega), zfill_eqF]
  refine ⟨k0, k1, k2, k3, k4, fun o' y' a b c d => ?_, fun o' y' a b c d => ?_, fun i f a b c d => ?_, fun i f a b c d => ?_⟩
  · have q := k5 o' y' a b c d
    unfold zfl
    by_cases c1 : o * 40 + y ≤ o' * 40 + y' ∧ o' * 40 + y' < o * 40 + 40
    · rw [if_pos c1, if_pos (by omega)]
    · rw [if_neg c1, if_neg (by omega)]; exact q
  · rw [e _ (by omega)]; exact k6 o' y' a b c d
  · rw [e _ (by omega)]; exact k7 i f a b c d
  · rw [e _ (by omega)]; exact k8 i f a b c d
theorem bk_profit {FI : zFI} {AI : zAI} {B : Nat} {N : Int → Int} {o y r : Int} (h : bk FI AI B N) (hb : N 2 ≤ 3) (h0 : 0 ≤ o) (h1 : o < 3) (h2 : 0 ≤ y) (h3 : y < 40) : bk FI (zsA AI (B + 2) (o * 40 + y) r) B (zu1 N (125 + 40 * o + y) r) := by
  obtain ⟨k0, k1, k2, k3, k4, k5, k6, k7, k8⟩ := h
  unfold bk
  rw [zu1_ne (show (0 : Int) ≠ 125 + 40 * o + y by omega), zu1_ne (show (1 : Int) ≠ 125 + 40 * o + y by omega), zu1_ne (show (2 : Int) ≠ 125 + 40 * o + y by omega), zu1_ne (show (3 : Int) ≠ 125 + 40 * o + y by omega), zu1_ne (show (4 : Int) ≠ 125 + 40 * o + y by omega), zsA_neF (show B + 1 ≠ B + 2 by omega), zsA_neF (show B + 3 ≠ B + 2 by omega), zsA_neF (show B + 4 ≠ B + 2 by omega), zsA_eqF]
  refine ⟨k0, k1, k2, k3, k4, fun o' y' a b c d => ?_, fun o' y' a b c d => ?_, fun i f a b c d => ?_, fun i f a b c d => ?_⟩
  · rw [zu1_ne (by omega)]; exact k5 o' y' a b c d
  · by_cases e : o' = o ∧ y' = y
    · rw [e.1, e.2, zu1_eq, zu1_eq]
    · rw [zu1_ne (by omega), zu1_ne (by omega)]; exact k6 o' y' a b c d
  · rw [zu1_ne (by omega)]; exact k7 i f a b c d
  · rw [zu1_ne (by omega)]; exact k8 i f a b c d
/-- one row of the items: any row that holds it -/
theorem bk_item {FI F1 : zFI} {AI A1 : zAI} {B : Nat} {N N1 : Int → Int} {q : Int} (h : bk FI AI B N) (hb : N 2 ≤ 3 ∧ N 3 ≤ 30 ∧ N 4 ≤ 10) (h3 : N 3 ≤ N1 3 ∧ N1 3 ≤ N 3 + 1) (hq0 : 0 ≤ q) (hq1 : q < N1 3) (hq2 : N1 3 = N 3 ∨ q = N 3) (hS : ∀ j : Int, 0 ≤ j → j < 435 → j ≠ 3 → (j < 245 + 5 * q ∨ 250 + 5 * q ≤ j) → N1 j = N j)
    (hF : F1 B 7 = N1 3) (hF2 : ∀ j, 4 ≤ j → j ≤ 8 → j ≠ 7 → F1 B j = FI B j) (hA : ∀ a, B + 1 ≤ a → a ≤ B + 4 → a ≠ B + 3 → A1 a = AI a) (hA2 : ∀ j : Int, j < q * 5 ∨ q * 5 + 5 ≤ j → A1 (B + 3) j = AI (B + 3) j) (hA3 : ∀ f : Int, 0 ≤ f → f < 5 → A1 (B + 3) (q * 5 + f) = N1 (245 + 5 * q + f)) (hq30 : q < 30) : bk F1 A1 B N1 := by
  obtain ⟨k0, k1, k2, k3, k4, k5, k6, k7, k8⟩ := h
  unfold bk
  rw [hF, hF2 4 (by omega) (by omega) (by omega), hF2 5 (by omega) (by omega) (by omega), hF2 6 (by omega) (by omega) (by omega), hF2 8 (by omega) (by omega) (by omega), hA (B + 1) (by omega) (by omega) (by omega), hA (B + 2) (by omega) (by omega) (by omega), hA (B + 4) (by omega) (by omega) (by omega), hS 0 (by omega) (by omega) (by omega) (by omega), hS 1 (by omega) (by omega) (by omega) (by omega), hS 2 (by omega) (by omega) (by omega) (by omega), hS 4 (by omega) (by omega) (by omega) (by omega)]
  refine ⟨k0, k1, k2, rfl, k4, fun o' y' a b c d => ?_, fun o' y' a b c d => ?_, fun i f a b c d => ?_, fun i f a b c d => ?_⟩
  · rw [hS _ (by omega) (by omega) (by omega) (by omega)]; exact k5 o' y' a b c d
  · rw [hS _ (by omega) (by omega) (by omega) (by omega)]; exact k6 o' y' a b c d
  · by_cases e : i = q
    · rw [e]; exact hA3 f c d
    · rw [hS _ (by omega) (by omega) (by omega) (by omega), hA2 _ (by omega)]; exact k7 i f a (by omega) c d
  · rw [hS _ (by omega) (by omega) (by omega) (by omega)]; exact k8 i f a b c d
theorem bk_loss {FI F1 : zFI} {AI A1 : zAI} {B : Nat} {N N1 : Int → Int} {q : Int} (h : bk FI AI B N) (hb : N 2 ≤ 3 ∧ N 3 ≤ 30 ∧ N 4 ≤ 10) (h3 : N 4 ≤ N1 4 ∧ N1 4 ≤ N 4 + 1) (hq0 : 0 ≤ q) (hq1 : q < N1 4) (hq2 : N1 4 = N 4 ∨ q = N 4) (hS : ∀ j : Int, 0 ≤ j → j < 435 → j ≠ 4 → (j < 395 + 4 * q ∨ 399 + 4 * q ≤ j) → N1 j = N j)
    (hF : F1 B 8 = N1 4) (hF2 : ∀ j, 4 ≤ j → j ≤ 7 → F1 B j = FI B j) (hA : ∀ a, B + 1 ≤ a → a ≤ B + 3 → A1 a = AI a) (hA2 : ∀ j : Int, j < q * 4 ∨ q * 4 + 4 ≤ j → A1 (B + 4) j = AI (B + 4) j) (hA3 : ∀ f : Int, 0 ≤ f → f < 4 → A1 (B + 4) (q * 4 + f) = N1 (395 + 4 * q + f)) (hq30 : q < 10) : bk F1 A1 B N1 := by
  obtain ⟨k0, k1, k2, k3, k4, k5, k6, k7, k8⟩ := h
  unfold bk
  rw [hF, hF2 4 (by omega) (by omega), hF2 5 (by omega) (by omega), hF2 6 (by omega) (by omega), hF2 7 (by omega) (by omega), hA (B + 1) (by omega) (by omega), hA (B + 2) (by omega) (by omega), hA (B + 3) (by omega) (by omega), hS 0 (by omega) (by omega) (by omega) (by omega), hS 1 (by omega) (by omega) (by omega) (by omega), hS 2 (by omega) (by omega) (by omega) (by omega), hS 3 (by omega) (by omega) (by omega) (by omega)]
  refine ⟨k0, k1, k2, k3, rfl, fun o' y' a b c d => ?_, fun o' y' a b c d => ?_, fun i f a b c d => ?_, fun i f a b c d => ?_⟩
  · rw [hS _ (by omega) (by omega) (by omega) (by omega)]; exact k5 o' y' a b c d
  · rw [hS _ (by omega) (by omega) (by omega) (by omega)]; exact k6 o' y' a b c d
  · rw [hS _ (by omega) (by omega) (by omega) (by omega)]; exact k7 i f a b c d
  · by_cases e : i = q
    · rw [e]; exact hA3 f c d
    · rw [hS _ (by omega) (by omega) (by omega) (by omega), hA2 _ (by omega)]; exact k8 i f a (by omega) c d
/-- what a book's act may touch -/
def bFr (B : Nat) (FI F1 : zFI) (AI A1 : zAI) : Prop := (∀ o j, o ≠ B → F1 o j = FI o j) ∧ ∀ a, a < B + 1 ∨ B + 4 < a → A1 a = AI a
theorem bFr.rfl {B : Nat} {FI : zFI} {AI : zAI} : bFr B FI FI AI AI := ⟨fun _ _ _ => Eq.refl _, fun _ _ => Eq.refl _⟩
theorem bFr.trans {B : Nat} {FI F1 F2 : zFI} {AI A1 A2 : zAI} (h : bFr B FI F1 AI A1) (g : bFr B F1 F2 A1 A2) : bFr B FI F2 AI A2 := ⟨fun o j a => (g.1 o j a).trans (h.1 o j a), fun a b => (g.2 a b).trans (h.2 a b)⟩
theorem bFr.setF {B : Nat} {FI F1 : zFI} {AI A1 : zAI} (h : bFr B FI F1 AI A1) {j : Nat} {x : Int} : bFr B FI (zsF F1 B j x) AI A1 := ⟨fun o k a => (zsF_ne (Or.inl a)).trans (h.1 o k a), h.2⟩
theorem bFr.setA {B : Nat} {FI F1 : zFI} {AI A1 : zAI} (h : bFr B FI F1 AI A1) {a : Nat} {i x : Int} (ha : B + 1 ≤ a ∧ a ≤ B + 4) : bFr B FI F1 AI (zsA A1 a i x) := ⟨h.1, fun c d => (zsA_neF (by omega)).trans (h.2 c d)⟩
