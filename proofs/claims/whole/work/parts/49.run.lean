/-! WHOLE TEXTS: one end, and rows as they should be -/
def mT (L : Int) (N : Int → Int) : Prop := N 0 = 0 ∧ (0 ≤ N 1 ∧ N 1 ≤ 20) ∧ (0 ≤ N 2 ∧ N 2 ≤ 3) ∧ (0 ≤ N 3 ∧ N 3 ≤ 16) ∧ (0 ≤ N 4 ∧ N 4 ≤ 10) ∧ (∀ o y : Int, 0 ≤ o → o < 3 → 0 ≤ y → y < 40 → (0 ≤ N (5 + 40 * o + y) ∧ N (5 + 40 * o + y) ≤ 900) ∧ (0 ≤ N (125 + 40 * o + y) ∧ N (125 + 40 * o + y) ≤ 99999)) ∧ (∀ i : Int, 0 ≤ i → i < N 3 → wI (mIt N) i) ∧ (∀ k : Int, 0 ≤ k → k < N 4 → wL (mLo N) k) ∧ (∀ j : Int, 435 ≤ j → j < 1395 → N j = 0) ∧ ((L = 0 ∧ N 2 = 0) ∨ (1 ≤ L ∧ 1 + N 2 ≤ L ∧ (2 ≤ L → 1 ≤ N 2)))
theorem tN_ge {b : Int → Int} {n p : Int} : p ≤ tN b n p := by
  have z1 := tF_b (b := b) (n := n) (n - p).toNat p
  have z2 := tE_b (b := b) (n := n) (n - tF b n p).toNat (tF b n p)
  have e : tF b n p = zsk b n (n - p).toNat p := rfl
  unfold tN tE
  split <;> omega
theorem tI_ge {b : Int → Int} {n p : Int} : ∀ k : Nat, p ≤ tI b n p k
  | 0 => Int.le_refl _
  | k + 1 => Int.le_trans (tI_ge k) tN_ge
theorem lGood_p {b : Int → Int} {n p : Int} {N N' : Int → Int} {L p' : Int} (h : lGood b n p N L N' p') : p < p' ∧ p' ≤ n ∧ tK b n p = 2 := by
  obtain ⟨j, ok, nf, gd, -, rfl⟩ := h
  have k2 := ok.2.1.1
  obtain ⟨k0, k1, k3, -⟩ := tK_word k2
  have z1 := tF_b (b := b) (n := n) (n - p).toNat p
  have e : tF b n p = zsk b n (n - p).toNat p := rfl
  have g1 := tI_ge (b := b) (n := n) (p := tN b n p) (sln j)
  have g2 := tN_ge (b := b) (n := n) (p := tI b n (tN b n p) (sln j))
  exact ⟨by omega, tN_b (by rw [gd.2]; omega), k2⟩
theorem wI_c {N N' : Int → Int} {i : Int} (h : wI (mIt N) i) (e : ∀ f : Int, 0 ≤ f → f < 5 → N' (245 + 5 * i + f) = N (245 + 5 * i + f)) : wI (mIt N') i := by
  simp only [wI, mIt] at h ⊢
  rw [e 0 (by omega) (by omega), e 1 (by omega) (by omega), e 2 (by omega) (by omega), e 3 (by omega) (by omega), e 4 (by omega) (by omega)]
  exact h
theorem wL_c {N N' : Int → Int} {i : Int} (h : wL (mLo N) i) (e : ∀ f : Int, 0 ≤ f → f < 4 → N' (395 + 4 * i + f) = N (395 + 4 * i + f)) : wL (mLo N') i := by
  simp only [wL, mLo] at h ⊢
  rw [e 0 (by omega) (by omega), e 1 (by omega) (by omega), e 2 (by omega) (by omega), e 3 (by omega) (by omega)]
  exact h
theorem mT_good {b : Int → Int} {n p : Int} {N N' : Int → Int} {L p' : Int} (hT : mT L N) (h : lGood b n p N L N' p') : mT (L + 1) N' := by
  obtain ⟨t0, t1, t2, t3, t4, t5, t6, t7, t8, t9⟩ := hT
  obtain ⟨j, ok, nf, gd, rfl, -⟩ := h
  obtain ⟨ok1, ok2, ok3⟩ := ok
  generalize hV : sV b n (tN b n p) = V at *
  have hv : ∀ i : Nat, i < sln j → slo j V i ≤ V i ∧ V i ≤ shi j (N 2) i := fun i hi => by
    have z := (gd.1 i hi).2
    rw [hV] at z
    have e : V i = tV b n (tI b n (tN b n p) i) := by rw [← hV]; rfl
    rw [e]; exact z
  unfold lFull at nf
  rcases (show j = 0 ∨ j = 1 ∨ j = 2 ∨ j = 3 ∨ j = 4 ∨ j = 5 ∨ j = 6 by omega) with e | e | e | e | e | e | e <;> subst e
  · have v0 : 0 ≤ V 0 ∧ V 0 ≤ 20 := hv 0 (by decide)
    have e : ∀ q : Int, q ≠ 1 → nLn 0 N V q = N q := fun q hq => zu1_ne hq
    have e1 : nLn 0 N V 1 = V 0 := by simp [nLn, zu1]
    have ok4 : L = 0 := ok3
    refine ⟨by rw [e 0 (by omega)]; exact t0, by rw [e1]; exact v0, by rw [e 2 (by omega)]; exact t2, by rw [e 3 (by omega)]; exact t3, by rw [e 4 (by omega)]; exact t4, fun o y a b c d => by rw [e _ (by omega), e _ (by omega)]; exact t5 o y a b c d, fun i a b => ?_, fun i a b => ?_, fun q a b => by rw [e q (by omega)]; exact t8 q a b, by rw [e 2 (by omega)]; omega⟩
    · rw [e 3 (by omega)] at b
      exact wI_c (t6 i a b) (fun f _ _ => e _ (by omega))
    · rw [e 4 (by omega)] at b
      exact wL_c (t7 i a b) (fun f _ _ => e _ (by omega))
  · have v0 : 0 ≤ V 0 ∧ V 0 ≤ 900 := hv 0 (by decide)
    have e : ∀ q : Int, q ≠ 2 → nLn 1 N V q = zfl N (5 + 40 * N 2 + 0) (5 + 40 * N 2 + 40) (V 0) q := fun q hq => zu1_ne hq
    have e2 : nLn 1 N V 2 = N 2 + 1 := by simp [nLn, zu1]
    have e3 : ∀ q : Int, q ≠ 2 → q < 5 ∨ 125 ≤ q → nLn 1 N V q = N q := fun q hq hq2 => (e q hq).trans (if_neg (by omega))
    have ok4 : L = 1 + N 2 := ok3
    refine ⟨by rw [e3 0 (by omega) (by omega)]; exact t0, by rw [e3 1 (by omega) (by omega)]; exact t1, by rw [e2]; omega, by rw [e3 3 (by omega) (by omega)]; exact t3, by rw [e3 4 (by omega) (by omega)]; exact t4, fun o y a b c d => ⟨?_, ?_⟩, fun i a b => ?_, fun i a b => ?_, fun q a b => by rw [e3 q (by omega) (by omega)]; exact t8 q a b, by rw [e2]; omega⟩
    · rw [e _ (by omega)]
      have z := (t5 o y a b c d).1
      unfold zfl
      split <;> omega
    · rw [e3 _ (by omega) (by omega)]; exact (t5 o y a b c d).2
    · rw [e3 3 (by omega) (by omega)] at b
      exact wI_c (t6 i a b) (fun f _ _ => e3 _ (by omega) (by omega))
    · rw [e3 4 (by omega) (by omega)] at b
      exact wL_c (t7 i a b) (fun f _ _ => e3 _ (by omega) (by omega))
  · have v0 : 0 ≤ V 0 ∧ V 0 ≤ N 2 - 1 := hv 0 (by decide)
    have v1 : 0 ≤ V 1 ∧ V 1 ≤ 39 := hv 1 (by decide)
    have v2 : 0 ≤ V 2 ∧ V 2 ≤ 900 := hv 2 (by decide)
    have e : ∀ q : Int, nLn 2 N V q = zfl N (5 + 40 * V 0 + V 1) (5 + 40 * V 0 + 40) (V 2) q := fun q => rfl
    have e3 : ∀ q : Int, q < 5 ∨ 125 ≤ q → nLn 2 N V q = N q := fun q hq2 => (e q).trans (if_neg (by omega))
    have ok4 : 2 ≤ L := ok3
    refine ⟨by rw [e3 0 (by omega)]; exact t0, by rw [e3 1 (by omega)]; exact t1, by rw [e3 2 (by omega)]; exact t2, by rw [e3 3 (by omega)]; exact t3, by rw [e3 4 (by omega)]; exact t4, fun o y a b c d => ⟨?_, ?_⟩, fun i a b => ?_, fun i a b => ?_, fun q a b => by rw [e3 q (by omega)]; exact t8 q a b, by rw [e3 2 (by omega)]; omega⟩
    · rw [e _]
      have z := (t5 o y a b c d).1
      unfold zfl
      split <;> omega
    · rw [e3 _ (by omega)]; exact (t5 o y a b c d).2
    · rw [e3 3 (by omega)] at b
      exact wI_c (t6 i a b) (fun f _ _ => e3 _ (by omega))
    · rw [e3 4 (by omega)] at b
      exact wL_c (t7 i a b) (fun f _ _ => e3 _ (by omega))
  · have v0 : 0 ≤ V 0 ∧ V 0 ≤ N 2 - 1 := hv 0 (by decide)
    have v1 : 0 ≤ V 1 ∧ V 1 ≤ 39 := hv 1 (by decide)
    have v2 : 1 ≤ V 2 ∧ V 2 ≤ 99999 := hv 2 (by decide)
    have e : ∀ q : Int, q < 125 ∨ 245 ≤ q → nLn 3 N V q = N q := fun q hq => zu1_ne (by omega)
    have ok4 : 2 ≤ L := ok3
    refine ⟨by rw [e 0 (by omega)]; exact t0, by rw [e 1 (by omega)]; exact t1, by rw [e 2 (by omega)]; exact t2, by rw [e 3 (by omega)]; exact t3, by rw [e 4 (by omega)]; exact t4, fun o y a b c d => ⟨?_, ?_⟩, fun i a b => ?_, fun i a b => ?_, fun q a b => by rw [e q (by omega)]; exact t8 q a b, by rw [e 2 (by omega)]; omega⟩
    · rw [e _ (by omega)]; exact (t5 o y a b c d).1
    · have z := (t5 o y a b c d).2
      show 0 ≤ zu1 N (125 + 40 * V 0 + V 1) (V 2) (125 + 40 * o + y) ∧ zu1 N (125 + 40 * V 0 + V 1) (V 2) (125 + 40 * o + y) ≤ 99999
      unfold zu1
      split <;> omega
    · rw [e 3 (by omega)] at b
      exact wI_c (t6 i a b) (fun f _ _ => e _ (by omega))
    · rw [e 4 (by omega)] at b
      exact wL_c (t7 i a b) (fun f _ _ => e _ (by omega))
  all_goals
    have ok4 : 2 ≤ L := ok3
    have v0 : 0 ≤ V 0 ∧ V 0 ≤ N 2 - 1 := hv 0 (by decide)
    have v1 : 1 ≤ V 1 ∧ V 1 ≤ 99999 := hv 1 (by decide)
    have v2 : 1 ≤ V 2 ∧ V 2 ≤ 39 := hv 2 (by decide)
  · have v3 : V 2 ≤ V 3 ∧ V 3 ≤ 39 := hv 3 (by decide)
    have e : ∀ q : Int, q ≠ 3 → q < 245 + 5 * N 3 ∨ 250 + 5 * N 3 ≤ q → nLn 4 N V q = N q := fun q h1 h2 => by
      show zu1 (zu1 (zu1 (zu1 (zu1 (zu1 N _ _) _ _) _ _) _ _) _ _) _ _ q = N q
      rw [zu1_ne h1, zu1_ne (by omega), zu1_ne (by omega), zu1_ne (by omega), zu1_ne (by omega), zu1_ne (by omega)]
    have e3 : nLn 4 N V 3 = N 3 + 1 := by simp [nLn, zu1]
    refine ⟨by rw [e 0 (by omega) (by omega)]; exact t0, by rw [e 1 (by omega) (by omega)]; exact t1, by rw [e 2 (by omega) (by omega)]; exact t2, by rw [e3]; omega, by rw [e 4 (by omega) (by omega)]; exact t4, fun o y a b c d => by rw [e _ (by omega) (by omega), e _ (by omega) (by omega)]; exact t5 o y a b c d, fun i a b => ?_, fun i a b => ?_, fun q a b => by rw [e q (by omega) (by omega)]; exact t8 q a b, by rw [e 2 (by omega) (by omega)]; omega⟩
    · rw [e3] at b
      by_cases c : i = N 3
      · subst c
        show wI (mIt (zu1 (zu1 (zu1 (zu1 (zu1 (zu1 N (245 + 5 * N 3 + 0) (V 0)) (245 + 5 * N 3 + 2) (V 1)) (245 + 5 * N 3 + 3) (V 2)) (245 + 5 * N 3 + 4) (V 3)) (245 + 5 * N 3 + 1) 1) 3 (N 3 + 1))) (N 3)
        simp only [wI, mIt]
        simp (disch := omega) only [zu1_ne, zu1_eq]
        refine ⟨by omega, ?_, by omega, by omega⟩
        first | exact Or.inl rfl | exact Or.inr rfl | trivial | omega
      · exact wI_c (t6 i a (by omega)) (fun f _ _ => e _ (by omega) (by omega))
    · rw [e 4 (by omega) (by omega)] at b
      exact wL_c (t7 i a b) (fun f _ _ => e _ (by omega) (by omega))
  · have v3 : V 2 ≤ V 3 ∧ V 3 ≤ 39 := hv 3 (by decide)
    have e : ∀ q : Int, q ≠ 3 → q < 245 + 5 * N 3 ∨ 250 + 5 * N 3 ≤ q → nLn 5 N V q = N q := fun q h1 h2 => by
      show zu1 (zu1 (zu1 (zu1 (zu1 (zu1 N _ _) _ _) _ _) _ _) _ _) _ _ q = N q
      rw [zu1_ne h1, zu1_ne (by omega), zu1_ne (by omega), zu1_ne (by omega), zu1_ne (by omega), zu1_ne (by omega)]
    have e3 : nLn 5 N V 3 = N 3 + 1 := by simp [nLn, zu1]
    refine ⟨by rw [e 0 (by omega) (by omega)]; exact t0, by rw [e 1 (by omega) (by omega)]; exact t1, by rw [e 2 (by omega) (by omega)]; exact t2, by rw [e3]; omega, by rw [e 4 (by omega) (by omega)]; exact t4, fun o y a b c d => by rw [e _ (by omega) (by omega), e _ (by omega) (by omega)]; exact t5 o y a b c d, fun i a b => ?_, fun i a b => ?_, fun q a b => by rw [e q (by omega) (by omega)]; exact t8 q a b, by rw [e 2 (by omega) (by omega)]; omega⟩
    · rw [e3] at b
      by_cases c : i = N 3
      · subst c
        show wI (mIt (zu1 (zu1 (zu1 (zu1 (zu1 (zu1 N (245 + 5 * N 3 + 0) (V 0)) (245 + 5 * N 3 + 2) (V 1)) (245 + 5 * N 3 + 3) (V 2)) (245 + 5 * N 3 + 4) (V 3)) (245 + 5 * N 3 + 1) 0) 3 (N 3 + 1))) (N 3)
        simp only [wI, mIt]
        simp (disch := omega) only [zu1_ne, zu1_eq]
        refine ⟨by omega, ?_, by omega, by omega⟩
        first | exact Or.inl rfl | exact Or.inr rfl | trivial | omega
      · exact wI_c (t6 i a (by omega)) (fun f _ _ => e _ (by omega) (by omega))
    · rw [e 4 (by omega) (by omega)] at b
      exact wL_c (t7 i a b) (fun f _ _ => e _ (by omega) (by omega))
  · have e : ∀ q : Int, q ≠ 4 → q < 395 + 4 * N 4 ∨ 399 + 4 * N 4 ≤ q → nLn 6 N V q = N q := fun q h1 h2 => by
      show zu1 (zu1 (zu1 (zu1 (zu1 N _ _) _ _) _ _) _ _) _ _ q = N q
      rw [zu1_ne h1, zu1_ne (by omega), zu1_ne (by omega), zu1_ne (by omega), zu1_ne (by omega)]
    have e4 : nLn 6 N V 4 = N 4 + 1 := by simp [nLn, zu1]
    refine ⟨by rw [e 0 (by omega) (by omega)]; exact t0, by rw [e 1 (by omega) (by omega)]; exact t1, by rw [e 2 (by omega) (by omega)]; exact t2, by rw [e 3 (by omega) (by omega)]; exact t3, by rw [e4]; omega, fun o y a b c d => by rw [e _ (by omega) (by omega), e _ (by omega) (by omega)]; exact t5 o y a b c d, fun i a b => ?_, fun i a b => ?_, fun q a b => by rw [e q (by omega) (by omega)]; exact t8 q a b, by rw [e 2 (by omega) (by omega)]; omega⟩
    · rw [e 3 (by omega) (by omega)] at b
      exact wI_c (t6 i a b) (fun f _ _ => e _ (by omega) (by omega))
    · rw [e4] at b
      by_cases c : i = N 4
      · subst c
        show wL (mLo (zu1 (zu1 (zu1 (zu1 (zu1 N (395 + 4 * N 4 + 0) (V 0)) (395 + 4 * N 4 + 1) (V 1)) (395 + 4 * N 4 + 2) (V 2)) (395 + 4 * N 4 + 3) (V 1)) 4 (N 4 + 1))) (N 4)
        simp only [wL, mLo]
        simp (disch := omega) only [zu1_ne, zu1_eq]
        omega
      · exact wL_c (t7 i a (by omega)) (fun f _ _ => e _ (by omega) (by omega))
theorem tRun_inv {b : Int → Int} {n : Int} {N0 : Int → Int} (hn : 0 ≤ n) (h0 : ∀ j : Int, 0 ≤ j → j < 1395 → N0 j = 0) : ∀ (L : Nat) (N : Int → Int) (p : Int), tRun b n N0 L N p → mT L N ∧ L ≤ p ∧ p ≤ n
  | 0, N, p, h => by
    obtain ⟨rfl, rfl⟩ := h
    refine ⟨⟨h0 0 (by omega) (by omega), by rw [h0 1 (by omega) (by omega)]; omega, by rw [h0 2 (by omega) (by omega)]; omega, by rw [h0 3 (by omega) (by omega)]; omega, by rw [h0 4 (by omega) (by omega)]; omega, fun o y a b c d => by rw [h0 _ (by omega) (by omega), h0 _ (by omega) (by omega)]; omega, fun i a b => ?_, fun i a b => ?_, fun j a b => h0 j (by omega) b, Or.inl ⟨rfl, h0 2 (by omega) (by omega)⟩⟩, by omega, hn⟩
    · rw [h0 3 (by omega) (by omega)] at b; omega
    · rw [h0 4 (by omega) (by omega)] at b; omega
  | L + 1, N', p', h => by
    obtain ⟨N, p, h1, h2⟩ := h
    obtain ⟨i1, i2, i3⟩ := tRun_inv hn h0 L N p h1
    have g := lGood_p h2
    have m := mT_good i1 h2
    rw [show ((L + 1 : Nat) : Int) = (L : Int) + 1 by omega]
    exact ⟨m, by omega, by omega⟩
theorem lGood_uni {b : Int → Int} {n p : Int} {N N1 N2 : Int → Int} {L p1 p2 : Int} (h : lGood b n p N L N1 p1) (g : lGood b n p N L N2 p2) : N1 = N2 ∧ p1 = p2 := by
  obtain ⟨j, ok, -, -, rfl, rfl⟩ := h
  obtain ⟨j', ok', -, -, rfl, rfl⟩ := g
  have e := zKw_uni ok.1 ok'.1 ok.2.1 ok'.2.1
  subst e
  exact ⟨rfl, rfl⟩
theorem tRun_uni {b : Int → Int} {n : Int} {N0 : Int → Int} : ∀ (L : Nat) (N N' : Int → Int) (p p' : Int), tRun b n N0 L N p → tRun b n N0 L N' p' → N = N' ∧ p = p'
  | 0, N, N', p, p', h, g => ⟨h.1.trans g.1.symm, h.2.trans g.2.symm⟩
  | L + 1, N, N', p, p', h, g => by
    obtain ⟨M, q, h1, h2⟩ := h
    obtain ⟨M', q', g1, g2⟩ := g
    obtain ⟨rfl, rfl⟩ := tRun_uni L M M' q q' h1 g1
    exact lGood_uni h2 g2
theorem sBd_good {b : Int → Int} {n p1 f : Int} {j : Nat} {flt pl : Int} (h : sBd b n p1 f j flt pl) (g : sGd b n p1 f j) : False := by
  rcases h with ⟨k, hk, -, hn, -⟩ | ⟨-, h4, -⟩
  · exact hn (g.1 k hk)
  · exact h4 g.2
theorem sBd_uni {b : Int → Int} {n p1 f : Int} {j : Nat} {flt pl flt' pl' : Int} (h : sBd b n p1 f j flt pl) (g : sBd b n p1 f j flt' pl') : flt = flt' ∧ pl = pl' := by
  rcases h with ⟨k, hk, hs, hn, e1, e2⟩ | ⟨hs, h4, e1, e2⟩
  · rcases g with ⟨k', hk', hs', hn', e1', e2'⟩ | ⟨hs', h4', e1', e2'⟩
    · have ek : k = k' := by
        rcases (show k < k' ∨ k = k' ∨ k' < k by omega) with c | c | c
        · exact absurd (hs' k c) hn
        · exact c
        · exact absurd (hs k' c) hn'
      subst ek
      exact ⟨e1.trans e1'.symm, e2.trans e2'.symm⟩
    · exact absurd (hs' k hk) hn
  · rcases g with ⟨k', hk', hs', hn', e1', e2'⟩ | ⟨hs', h4', e1', e2'⟩
    · exact absurd (hs k' hk') hn'
    · exact ⟨e1.trans e1'.symm, e2.trans e2'.symm⟩
theorem lFault_good {b : Int → Int} {n p : Int} {N N1 : Int → Int} {L flt pl p1 : Int} (h : lFault b n p N L flt pl) (g : lGood b n p N L N1 p1) : False := by
  obtain ⟨j, ok, nf, gd, -, -⟩ := g
  rcases h with ⟨h1, -⟩ | ⟨j', ok', h2⟩
  · exact h1 j ok
  · have e := zKw_uni ok.1 ok'.1 ok.2.1 ok'.2.1
    subst e
    rcases h2 with ⟨h3, -⟩ | ⟨-, h3⟩
    · exact nf h3
    · exact sBd_good h3 gd
theorem lFault_uni {b : Int → Int} {n p : Int} {N : Int → Int} {L flt pl flt' pl' : Int} (h : lFault b n p N L flt pl) (g : lFault b n p N L flt' pl') : flt = flt' ∧ pl = pl' := by
  rcases h with ⟨h1, h2, h3, h4⟩ | ⟨j, ok, h2⟩
  · rcases g with ⟨g1, g2, g3, g4⟩ | ⟨j', ok', g2⟩
    · exact ⟨h3.trans g3.symm, h4.trans g4.symm⟩
    · exact absurd ok' (h1 j')
  · rcases g with ⟨g1, g2, g3, g4⟩ | ⟨j', ok', g2⟩
    · exact absurd ok (g1 j)
    · have e := zKw_uni ok.1 ok'.1 ok.2.1 ok'.2.1
      subst e
      rcases h2 with ⟨a1, a2, a3⟩ | ⟨a1, a2⟩
      · rcases g2 with ⟨c1, c2, c3⟩ | ⟨c1, c2⟩
        · exact ⟨a2.trans c2.symm, a3.trans c3.symm⟩
        · exact absurd a1 c1
      · rcases g2 with ⟨c1, c2, c3⟩ | ⟨c1, c2⟩
        · exact absurd c1 a1
        · exact sBd_uni a2 c2
theorem lFault_end {b : Int → Int} {n p : Int} {N : Int → Int} {L flt pl : Int} (h : lFault b n p N L flt pl) (g : tK b n p = 1) (g2 : 2 ≤ L) : False := by
  rcases h with ⟨-, h2, -⟩ | ⟨j, ok, -⟩
  · exact h2 ⟨g, g2⟩
  · have := ok.2.1.1
    omega
/-- the end of a text: what text answers, what fault answers then, the row -/
def tEnd (b : Int → Int) (n : Int) (N : Int → Int) (p : Int) (L : Nat) (res flt : Int) : Prop := (2 ≤ L ∧ tK b n p = 1 ∧ res = L ∧ flt = 0) ∨ ∃ pl, lFault b n p N L flt pl ∧ res = -1 - pl
def tOut (b : Int → Int) (n : Int) (N0 : Int → Int) (res flt : Int) (N : Int → Int) (ok : Prop) : Prop := ∃ L p, tRun b n N0 L N p ∧ tEnd b n N p L res flt ∧ (ok ↔ (2 ≤ L ∧ tK b n p = 1))
theorem tEnd_good {b : Int → Int} {n : Int} {N : Int → Int} {p : Int} {L : Nat} {res flt : Int} {N' : Int → Int} {p' : Int} (h : tEnd b n N p L res flt) (g : lGood b n p N L N' p') : False := by
  rcases h with ⟨-, h2, -⟩ | ⟨pl, h2, -⟩
  · have := (lGood_p g).2.2
    omega
  · exact lFault_good h2 g
theorem tRun_pre {b : Int → Int} {n : Int} {N0 : Int → Int} : ∀ (d L : Nat) (N : Int → Int) (p : Int), tRun b n N0 (L + d + 1) N p → ∃ M q M' q', tRun b n N0 L M q ∧ lGood b n q M L M' q'
  | 0, L, N, p, h => by
    obtain ⟨M, q, h1, h2⟩ := h
    exact ⟨M, q, N, p, h1, h2⟩
  | d + 1, L, N, p, h => by
    obtain ⟨M, q, h1, h2⟩ := h
    exact tRun_pre d L M q h1
theorem tOut_uni {b : Int → Int} {n : Int} {N0 : Int → Int} {res flt res' flt' : Int} {N N' : Int → Int} {ok ok' : Prop} (h : tOut b n N0 res flt N ok) (g : tOut b n N0 res' flt' N' ok') : res = res' ∧ flt = flt' ∧ N = N' ∧ (ok ↔ ok') := by
  obtain ⟨L, p, h1, h2, h3⟩ := h
  obtain ⟨L', p', g1, g2, g3⟩ := g
  have e : L = L' := by
    rcases (show L < L' ∨ L = L' ∨ L' < L by omega) with c | c | c
    · obtain ⟨d, hd⟩ : ∃ d, L' = L + d + 1 := ⟨L' - L - 1, by omega⟩
      rw [hd] at g1
      obtain ⟨M, q, M', q', m1, m2⟩ := tRun_pre d L N' p' g1
      obtain ⟨rfl, rfl⟩ := tRun_uni L N M p q h1 m1
      exact absurd m2 (fun z => tEnd_good h2 z)
    · exact c
    · obtain ⟨d, hd⟩ : ∃ d, L = L' + d + 1 := ⟨L - L' - 1, by omega⟩
      rw [hd] at h1
      obtain ⟨M, q, M', q', m1, m2⟩ := tRun_pre d L' N p h1
      obtain ⟨rfl, rfl⟩ := tRun_uni L' N' M p' q g1 m1
      exact absurd m2 (fun z => tEnd_good g2 z)
  subst e
  obtain ⟨rfl, rfl⟩ := tRun_uni L N N' p p' h1 g1
  refine ⟨?_, ?_, rfl, h3.trans g3.symm⟩
  · rcases h2 with ⟨a1, a2, a3, a4⟩ | ⟨pl, a1, a2⟩
    · rcases g2 with ⟨c1, c2, c3, c4⟩ | ⟨pl', c1, c2⟩
      · omega
      · exact absurd c1 (fun z => lFault_end z a2 (by omega))
    · rcases g2 with ⟨c1, c2, c3, c4⟩ | ⟨pl', c1, c2⟩
      · exact absurd a1 (fun z => lFault_end z c2 (by omega))
      · have := lFault_uni a1 c1
        omega
  · rcases h2 with ⟨a1, a2, a3, a4⟩ | ⟨pl, a1, a2⟩
    · rcases g2 with ⟨c1, c2, c3, c4⟩ | ⟨pl', c1, c2⟩
      · omega
      · exact absurd c1 (fun z => lFault_end z a2 (by omega))
    · rcases g2 with ⟨c1, c2, c3, c4⟩ | ⟨pl', c1, c2⟩
      · exact absurd a1 (fun z => lFault_end z c2 (by omega))
      · exact (lFault_uni a1 c1).1
theorem tP_b {b : Int → Int} {n q : Int} (h0 : 0 ≤ q) (h1 : q ≤ n) (hn : n ≤ 640) : 0 ≤ tP b n q ∧ tP b n q ≤ 640 := by
  have z1 := tF_b (b := b) (n := n) (n - q).toNat q
  have e : tF b n q = zsk b n (n - q).toNat q := rfl
  unfold tP
  split <;> omega
theorem tI_b {b : Int → Int} {n p1 f : Int} {j : Nat} (h1 : p1 ≤ n) : ∀ k : Nat, sSt b n p1 f j k → tI b n p1 k ≤ n
  | 0, _ => h1
  | k + 1, h => tN_b (by rw [(h k (by omega)).1]; omega)
theorem lFault_b {b : Int → Int} {n p : Int} {N : Int → Int} {L flt pl : Int} (h0 : 0 ≤ p) (h1 : p ≤ n) (hn : n ≤ 640) (h : lFault b n p N L flt pl) : 0 ≤ pl ∧ pl ≤ 640 := by
  rcases h with ⟨-, -, -, rfl⟩ | ⟨j, ok, ⟨-, -, rfl⟩ | ⟨-, h2⟩⟩
  · exact tP_b h0 h1 hn
  · exact tP_b h0 h1 hn
  · have k2 := ok.2.1.1
    have p1 := tN_b (b := b) (n := n) (p := p) (by omega)
    have p0 := tN_ge (b := b) (n := n) (p := p)
    rcases h2 with ⟨k, -, hs, -, -, rfl⟩ | ⟨hs, -, -, rfl⟩
    · have g1 := tI_ge (b := b) (n := n) (p := tN b n p) k
      exact tP_b (by omega) (tI_b p1 k hs) hn
    · have g1 := tI_ge (b := b) (n := n) (p := tN b n p) (sln j)
      exact tP_b (by omega) (tI_b p1 _ hs) hn
theorem lGood_2 {b : Int → Int} {n p : Int} {N N' : Int → Int} {L p' : Int} (hT : mT L N) (h : lGood b n p N L N' p') (hL : 2 ≤ L) (hno : ¬ (zKw b n p 1 ∧ L = 1 + N 2)) : N' 2 = N 2 := by
  obtain ⟨t0, t1, t2, t3, t4, t5, t6, t7, t8, t9⟩ := hT
  obtain ⟨j, ok, nf, gd, rfl, -⟩ := h
  obtain ⟨ok1, ok2, ok3⟩ := ok
  rcases (show j = 0 ∨ j = 1 ∨ j = 2 ∨ j = 3 ∨ j = 4 ∨ j = 5 ∨ j = 6 by omega) with e | e | e | e | e | e | e <;> subst e
  · have : L = 0 := ok3
    omega
  · exact absurd ⟨ok2, ok3⟩ hno
  · have v0 := (gd.1 0 (by decide)).2.1
    have v1 := (gd.1 1 (by decide)).2.1
    have v0' : 0 ≤ sV b n (tN b n p) 0 := v0
    have v1' : 0 ≤ sV b n (tN b n p) 1 := v1
    show zfl N _ _ _ 2 = N 2
    exact if_neg (by omega)
  · have v0' : 0 ≤ sV b n (tN b n p) 0 := (gd.1 0 (by decide)).2.1
    have v1' : 0 ≤ sV b n (tN b n p) 1 := (gd.1 1 (by decide)).2.1
    show zu1 N _ _ 2 = N 2
    exact zu1_ne (by omega)
  · have e : ∀ q : Int, q ≠ 3 → q < 245 + 5 * N 3 → nLn 4 N (sV b n (tN b n p)) q = N q := fun q h1 h2 => by
      show zu1 (zu1 (zu1 (zu1 (zu1 (zu1 N _ _) _ _) _ _) _ _) _ _) _ _ q = N q
      rw [zu1_ne (by omega), zu1_ne (by omega), zu1_ne (by omega), zu1_ne (by omega), zu1_ne (by omega), zu1_ne (by omega)]
    exact e 2 (by omega) (by omega)
  · have e : ∀ q : Int, q ≠ 3 → q < 245 + 5 * N 3 → nLn 5 N (sV b n (tN b n p)) q = N q := fun q h1 h2 => by
      show zu1 (zu1 (zu1 (zu1 (zu1 (zu1 N _ _) _ _) _ _) _ _) _ _) _ _ q = N q
      rw [zu1_ne (by omega), zu1_ne (by omega), zu1_ne (by omega), zu1_ne (by omega), zu1_ne (by omega), zu1_ne (by omega)]
    exact e 2 (by omega) (by omega)
  · have e : ∀ q : Int, q ≠ 4 → q < 395 + 4 * N 4 → nLn 6 N (sV b n (tN b n p)) q = N q := fun q h1 h2 => by
      show zu1 (zu1 (zu1 (zu1 (zu1 N _ _) _ _) _ _) _ _) _ _ q = N q
      rw [zu1_ne (by omega), zu1_ne (by omega), zu1_ne (by omega), zu1_ne (by omega), zu1_ne (by omega)]
    exact e 2 (by omega) (by omega)
/-- behind a text: the reference's fields -/
def zFx (FI FI1 : zFI) : Prop := (∀ o j, o ≠ 100 → FI1 o j = FI o j) ∧ FI1 100 0 = 0 ∧ FI1 100 2 = 0
