/-! THE ACTS KEEP THE ROW AS IT SHOULD BE -/
theorem mG_of {N N' : Int → Int} (h : mG N) (hW : mW N' (N' 3).toNat (N' 4).toNat) (hS : ∀ j : Int, 435 ≤ j → j < 1395 → N' j = N j) : mG N' := by
  obtain ⟨-, hC, hb⟩ := h
  refine ⟨hW, ⟨fun j a b => by rw [hS j a (by omega)]; exact hC.1 j a b, fun j a b => by rw [hS j (by omega) b]; exact hC.2 j a b⟩, fun o y a b c d => ?_⟩
  rw [hS _ (by omega) (by omega), hS _ (by omega) (by omega)]
  exact hb o y a b c d
theorem mG_rate {N : Int → Int} (h : mG N) {o y r : Int} (h0 : 0 ≤ o) (h1 : o < 3) (h2 : 0 ≤ y) (g0 : 0 ≤ r) (g1 : r ≤ 900) : mG (zfl N (5 + 40 * o + y) (5 + 40 * o + 40) r) := by
  have e : ∀ j : Int, j < 5 ∨ 125 ≤ j → zfl N (5 + 40 * o + y) (5 + 40 * o + 40) r j = N j := fun j hj => if_neg (by omega)
  refine mG_of h ?_ (fun j a b => e j (by omega))
  rw [e 3 (by omega), e 4 (by omega)]
  exact mW_rate h.1 h0 h1 h2 g0 g1
theorem mG_expect {N : Int → Int} (h : mG N) {o y s : Int} (h0 : 0 ≤ o) (h1 : o < 3) (h2 : 0 ≤ y) (h3 : y < 40) (g0 : 0 ≤ s) (g1 : s ≤ 99999) : mG (nExpect N o y s) := by
  have e : ∀ j : Int, j < 125 ∨ 245 ≤ j → nExpect N o y s j = N j := fun j hj => zu1_ne (by omega)
  refine mG_of h ?_ (fun j a b => e j (by omega))
  obtain ⟨w0, w1, w2, w3, w4, w5, w6, w7, w8, w9⟩ := h.1
  rw [e 3 (by omega), e 4 (by omega)]
  refine ⟨by rw [e 0 (by omega)]; exact w0, by rw [e 1 (by omega)]; exact w1, by rw [e 2 (by omega)]; exact w2, by rw [e 3 (by omega)]; exact w3, w4, by rw [e 4 (by omega)]; exact w5, w6, fun o' y' a b c d => ⟨by rw [e _ (by omega)]; exact (w7 o' y' a b c d).1, ?_⟩, fun i a b => wI_c (w8 i a b) (fun f _ _ => e _ (by omega)), fun i a b => wL_c (w9 i a b) (fun f _ _ => e _ (by omega))⟩
  have q := (w7 o' y' a b c d).2
  unfold nExpect zu1
  split <;> omega
theorem mG_arise {N : Int → Int} (h : mG N) {o tx s f l : Int} (h0 : 0 ≤ o) (h1 : o < 3) (ht : tx = 0 ∨ tx = 1) (g0 : 0 ≤ s) (g1 : s ≤ 99999) (f0 : 1 ≤ f) (f1 : f ≤ l) (f2 : l ≤ 39) (hn : N 3 < 30) : mG (nArise N o tx s f l) := by
  obtain ⟨w0, w1, w2, w3, w4, w5, w6, w7, w8, w9⟩ := h.1
  have e : ∀ q : Int, q ≠ 3 → q < 245 + 5 * N 3 ∨ 250 + 5 * N 3 ≤ q → nArise N o tx s f l q = N q := fun q a b => by
    unfold nArise
    rw [zu1_ne a, zu1_ne (by omega), zu1_ne (by omega), zu1_ne (by omega), zu1_ne (by omega), zu1_ne (by omega)]
  have e3 : nArise N o tx s f l 3 = N 3 + 1 := by unfold nArise; rw [zu1_eq]
  refine mG_of h ?_ (fun j a b => e j (by omega) (by omega))
  rw [e3, e 4 (by omega) (by omega)]
  refine ⟨by rw [e 0 (by omega) (by omega)]; exact w0, by rw [e 1 (by omega) (by omega)]; exact w1, by rw [e 2 (by omega) (by omega)]; exact w2, by rw [e3]; omega, by omega, by rw [e 4 (by omega) (by omega)]; exact w5, w6, fun o' y' a b c d => by rw [e _ (by omega) (by omega), e _ (by omega) (by omega)]; exact w7 o' y' a b c d, fun i a b => ?_, fun i a b => wL_c (w9 i a b) (fun f _ _ => e _ (by omega) (by omega))⟩
  by_cases c : i = N 3
  · subst c
    simp only [wI, mIt]
    unfold nArise
    simp (disch := omega) only [zu1_ne, zu1_eq]
    exact ⟨⟨h0, h1⟩, ht, ⟨g0, g1⟩, f0, f1, f2⟩
  · exact wI_c (w8 i a (by omega)) (fun f _ _ => e _ (by omega) (by omega))
theorem mG_settle {N : Int → Int} (h : mG N) {i : Int} (h0 : 0 ≤ i) (h1 : i < N 3) (hy : N 0 < 39) : mG (nSettle N i) := by
  obtain ⟨w0, w1, w2, w3, w4, w5, w6, w7, w8, w9⟩ := h.1
  have e : ∀ q : Int, q < 245 + 5 * i + 2 ∨ 250 + 5 * i ≤ q → nSettle N i q = N q := fun q b => by
    unfold nSettle
    rw [zu1_ne (by omega), zu1_ne (by omega), zu1_ne (by omega)]
  refine mG_of h ?_ (fun j a b => e j (by omega))
  rw [e 3 (by omega), e 4 (by omega)]
  refine ⟨by rw [e 0 (by omega)]; exact w0, by rw [e 1 (by omega)]; exact w1, by rw [e 2 (by omega)]; exact w2, by rw [e 3 (by omega)]; exact w3, w4, by rw [e 4 (by omega)]; exact w5, w6, fun o' y' a b c d => by rw [e _ (by omega), e _ (by omega)]; exact w7 o' y' a b c d, fun k a b => ?_, fun k a b => wL_c (w9 k a b) (fun f _ _ => e _ (by omega))⟩
  have wk := w8 k a b
  by_cases c : k = i
  · subst c
    have ub := zUp_b wk (N 0)
    obtain ⟨v1, v2, v3, v4⟩ := wk
    have ob : 0 ≤ zOpen (mIt N) (N 0) k ∧ zOpen (mIt N) (N 0) k ≤ 99999 := by unfold zOpen; omega
    simp only [wI, mIt] at v1 v2 ⊢
    rw [e (245 + 5 * k + 0) (by omega), e (245 + 5 * k + 1) (by omega)]
    unfold nSettle
    simp (disch := omega) only [zu1_ne, zu1_eq]
    exact ⟨v1, v2, ob, by omega, by omega, by omega⟩
  · exact wI_c wk (fun f _ _ => e _ (by omega))
theorem mG_loss {N : Int → Int} (h : mG N) {o s l : Int} (h0 : 0 ≤ o) (h1 : o < 3) (g0 : 0 ≤ s) (g1 : s ≤ 3000000) (f0 : 1 ≤ l) (f2 : l ≤ 39) (hn : N 4 < 10) : mG (nLoss N o s l) := by
  obtain ⟨w0, w1, w2, w3, w4, w5, w6, w7, w8, w9⟩ := h.1
  have e : ∀ q : Int, q ≠ 4 → q < 395 + 4 * N 4 ∨ 399 + 4 * N 4 ≤ q → nLoss N o s l q = N q := fun q a b => by
    unfold nLoss
    rw [zu1_ne a, zu1_ne (by omega), zu1_ne (by omega), zu1_ne (by omega), zu1_ne (by omega)]
  have e4 : nLoss N o s l 4 = N 4 + 1 := by unfold nLoss; rw [zu1_eq]
  refine mG_of h ?_ (fun j a b => e j (by omega) (by omega))
  rw [e4, e 3 (by omega) (by omega)]
  refine ⟨by rw [e 0 (by omega) (by omega)]; exact w0, by rw [e 1 (by omega) (by omega)]; exact w1, by rw [e 2 (by omega) (by omega)]; exact w2, by rw [e 3 (by omega) (by omega)]; exact w3, w4, by rw [e4]; omega, by omega, fun o' y' a b c d => by rw [e _ (by omega) (by omega), e _ (by omega) (by omega)]; exact w7 o' y' a b c d, fun i a b => wI_c (w8 i a b) (fun f _ _ => e _ (by omega) (by omega)), fun i a b => ?_⟩
  by_cases c : i = N 4
  · subst c
    simp only [wL, mLo]
    unfold nLoss
    simp (disch := omega) only [zu1_ne, zu1_eq]
    exact ⟨⟨h0, h1⟩, ⟨g0, g1⟩, ⟨f0, f2⟩, g0, Int.le_refl _⟩
  · exact wL_c (w9 i a (by omega)) (fun f _ _ => e _ (by omega) (by omega))
/-- a text that was read whole -/
theorem mG_text {L : Int} {N : Int → Int} (h : mT L N) (hL : 2 ≤ L) : mG N := by
  obtain ⟨t0, t1, t2, t3, t4, t5, t6, t7, t8, t9⟩ := h
  refine ⟨⟨by omega, t1, by omega, by omega, by omega, by omega, by omega, t5, fun i a b => t6 i a (by omega), fun i a b => t7 i a (by omega)⟩, ⟨fun j a b => by rw [t8 j a (by omega)]; omega, fun j a b => by rw [t8 j (by omega) b]; omega⟩, fun o y a b c d => by rw [t8 _ (by omega) (by omega), t8 _ (by omega) (by omega)]; omega⟩
theorem mG_year {N : Int → Int} (h : mG N) (hy : N 0 < 39) : mG (nYear N) := by
  have w2 := h.1.2.2.1
  obtain ⟨g1, g2⟩ := zit_Br h (N 2).toNat (by omega)
  obtain ⟨p1, p2⟩ := zit_Cs g1 (N 2).toNat (by omega)
  have e0 : zit nCs (zit nBr N (N 2).toNat) (N 2).toNat 0 = N 0 := (p2 0 (by omega) (by omega)).trans (g2 0 (by omega))
  unfold nYear
  generalize zit nCs (zit nBr N (N 2).toNat) (N 2).toNat = M at *
  have e : ∀ q : Int, q ≠ 0 → zu1 M 0 (N 0 + 1) q = M q := fun q hq => zu1_ne hq
  refine mG_of p1 ?_ (fun j a b => e j (by omega))
  obtain ⟨w0, w1, w2, w3, w4, w5, w6, w7, w8, w9⟩ := p1.1
  rw [e 3 (by omega), e 4 (by omega)]
  refine ⟨by rw [zu1_eq]; omega, by rw [e 1 (by omega)]; exact w1, by rw [e 2 (by omega)]; exact w2, by rw [e 3 (by omega)]; exact w3, w4, by rw [e 4 (by omega)]; exact w5, w6, fun o' y' a b c d => by rw [e _ (by omega), e _ (by omega)]; exact w7 o' y' a b c d, fun i a b => wI_c (w8 i a b) (fun f _ _ => e _ (by omega)), fun i a b => wL_c (w9 i a b) (fun f _ _ => e _ (by omega))⟩
