/-! ONE OFFICE FURTHER in a year's end -/
theorem ye1_step {T T3 : zTt} {FR FR3 : zFR} {AR AR3 : zAR} {F F2 F3 : zFI} {A A2 A3 : zAI} {B D y k : Nat} {N : Int → Int} {x : Int} (hG : mG N) (hy : N 0 = y) (gy : y < 39) (hk : (k : Int) < N 2) (gB : 16 < B) (gB2 : B + 4 < 200) (h : ye1 B D y N k T FR AR F A) (f2 : bFr B F F2 A A2) (kk : bk F2 A2 B (zit nBr N (k + 1))) (kf : kTF y k T T3 FR FR3 AR AR3 F2 F3 A2 A3) (ex : x = mInc (zit nBr N k) (zit nBr N k 3).toNat k) :
    ye1 B D y N (k + 1) T3 FR3 AR3 F3 (zsA A3 (kH y k + 1) 6 x) ∧ yR B y T T3 FR FR3 AR AR3 F F3 A (zsA A3 (kH y k + 1) 6 x) := by
  obtain ⟨hd, hc, hB, hs, hK, ho, hO⟩ := h
  obtain ⟨t1, t2, t3, t4⟩ := kf
  have w := hG.1.2.2.1
  have eH : ∀ y' o' : Nat, kH y' o' = 200 + 4 * (3 * y' + o') := fun _ _ => rfl
  have eK := eH y k
  have z := zit_Br hG k (by omega)
  have m0 : zit nBr N k 0 = y := (z.2 0 (by omega)).trans hy
  have gT : ∀ h, h < 200 + 12 * y ∨ 212 + 12 * y ≤ h → T3 h = T h ∧ FR3 h = FR h := fun h hh => ⟨(t1 h (by omega)).1, (t1 h (by omega)).2.1⟩
  have gA : ∀ y' o' f : Nat, o' < 3 → ¬ (y' = y ∧ o' = k) → 1 ≤ f → f ≤ 3 → zsA A3 (kH y k + 1) 6 x (kH y' o' + f) = A (kH y' o' + f) := fun y' o' f g1 g2 g3 g4 => by
    have e := eH y' o'
    rw [zsA_neF (by omega), (t1 _ (by omega)).2.2.2, f2.2 _ (by omega)]
  refine ⟨⟨dLay_gr hd (fun q hq => gT q (by omega)), cLay_gr hc (fun q hq => gT q (by omega)), bLay_gr hB (fun q a b => gT q (by omega)), fun y' o' g1 g2 => ?_, ?_, fun o g => ?_, fun y' o' g1 g2 => ?_⟩, gT, fun h j a b c => ?_, fun a g1 g2 g3 => ?_, fun a i g1 g2 => t2 a i (by omega) (by omega)⟩
  · by_cases e : y' = y ∧ o' = k
    · obtain ⟨rfl, rfl⟩ := e
      exact Or.inl ⟨t3, t4⟩
    · have e' := eH y' o'
      exact kS_gr (hs y' o' g1 g2) (fun q a b => ⟨(t1 q (by omega)).1, (t1 q (by omega)).2.1⟩) (t2 16 _ (by omega) (by omega))
  · exact bk_fr kk (fun j _ _ => by rw [(t1 B (by omega)).2.2.1]) (fun a h1 h2 => by rw [zsA_neF (by omega), (t1 a (by omega)).2.2.2])
  · by_cases e : o = k
    · subst e
      refine ⟨t3, ?_⟩
      rw [zsA_eq, ex]
      have q := nBr_at z.1 (o := (o : Int)) (by omega)
      rw [m0] at q
      exact q.symm
    · have q := ho o (by omega)
      refine ⟨(t2 16 _ (by omega) (by omega)).trans q.1, ?_⟩
      rw [gA y o 1 (by omega) (by omega) (by omega) (by omega), q.2]
      exact (nBr_ne z.1 (by omega) (by omega) (by rw [m0]; omega)).symm
  · have q := hO y' o' g1 g2
    refine ⟨(t2 16 _ (by omega) (by omega)).trans q.1, kV_c q.2.1 (gA y' o' 1 (by omega) (by omega) (by omega) (by omega)) (fun _ _ _ => rfl), fun e => kT_c (q.2.2 e) ⟨gA y' o' 2 (by omega) (by omega) (by omega) (by omega), gA y' o' 3 (by omega) (by omega) (by omega) (by omega)⟩ (fun _ _ _ _ => ⟨rfl, rfl⟩)⟩
  · rw [(t1 h (by omega)).2.2.1]
    exact f2.1 h j b
  · rw [zsA_neF (by omega), (t1 a (by omega)).2.2.2]
    exact f2.2 a g3
theorem ye2_step {T : zTt} {FR : zFR} {AR : zAR} {F F2 : zFI} {A A2 A3 : zAI} {B D y m k : Nat} {N : Int → Int} (hG : mG N) (hy : N 0 = y) (gy : y < 39) (hm : N 2 = m) (hk : k < m) (gB : 16 < B) (gB2 : B + 4 < 200) (h : ye2 B D y m N k T FR AR F A) (f2 : cFr A A2 F F2) (g3 : ∀ a, a < kH y k + 1 ∨ kH y k + 3 < a → A3 a = A2 a) (hV : kV A3 (kH y k) (nCs (zit nCs N k) k) k y) (hT : kT A3 (kH y k) (nCs (zit nCs N k) k) k y) (h6 : A3 (kH y k + 1) 6 = A2 (kH y k + 1) 6) :
    ye2 B D y m N (k + 1) T FR AR F2 A3 ∧ yR B y T T FR FR AR AR F F2 A A3 := by
  obtain ⟨hd, hc, hB, hs, hK, h6s, hc2, hO⟩ := h
  have w := hG.1.2.2.1
  have eH : ∀ y' o' : Nat, kH y' o' = 200 + 4 * (3 * y' + o') := fun _ _ => rfl
  have eK := eH y k
  have z := zit_Cs hG k (by omega)
  have m0 : zit nCs N k 0 = y := (z.2 0 (by omega) (by omega)).trans hy
  have zw := z.1.1
  have zn := nCs_G z.1 (o := (k : Int)) (by omega) (by omega)
  have gA : ∀ y' o' f : Nat, o' < 3 → ¬ (y' = y ∧ o' = k) → 1 ≤ f → f ≤ 3 → A3 (kH y' o' + f) = A (kH y' o' + f) := fun y' o' f g1 g2 c1 c2 => by
    have e := eH y' o'
    rw [g3 _ (by omega), f2.1 _ (by omega)]
  have hV2 : ∀ y' o' : Nat, o' < 3 → y' ≤ y → ¬ (y' = y ∧ o' = k) → ∀ {A0 : zAI}, kV A0 (kH y' o') (zit nCs N k) o' y' → A3 (kH y' o' + 1) = A0 (kH y' o' + 1) → kV A3 (kH y' o') (zit nCs N (k + 1)) o' y' := fun y' o' g1 g2 g4 A0 q e => kV_c q e (fun f a b => nCs_ne (by rw [m0]; omega) (by omega) (by omega))
  have hT2 : ∀ y' o' : Nat, o' < 3 → o' ≠ k → ∀ {A0 : zAI}, kT A0 (kH y' o') (zit nCs N k) o' y' → A3 (kH y' o' + 2) = A0 (kH y' o' + 2) ∧ A3 (kH y' o' + 3) = A0 (kH y' o' + 3) → kT A3 (kH y' o') (zit nCs N (k + 1)) o' y' := fun y' o' g1 g2 A0 q e => kT_c q e (fun t a b _ => ⟨nCs_ne (by omega) (by omega) (by omega), nCs_ne (by omega) (by omega) (by omega)⟩)
  refine ⟨⟨hd, hc, hB, hs, ?_, fun o g => ?_, fun o g => ?_, fun y' o' c1 c2 => ?_⟩, fun _ _ => ⟨rfl, rfl⟩, fun h j a b c => f2.2 h j (Or.inl c), fun a c1 c2 c3 => ?_, fun _ _ _ _ => rfl⟩
  · exact bk_same (bk_fr (f2.bk hK (by omega)) (fun _ _ _ => rfl) (fun a _ _ => g3 a (by omega))) ⟨zw.2.2.1.2, by have := zw.2.2.2.1; have := zw.2.2.2.2.1; omega, by have := zw.2.2.2.2.2.1; have := zw.2.2.2.2.2.2.1; omega⟩ zn.2
  · have q := h6s o g
    refine ⟨q.1, ?_⟩
    have e : zit nCs N (k + 1) (435 + 240 * o + 6 * y + 5) = zit nCs N k (435 + 240 * o + 6 * y + 5) := nCs_ne (by rw [m0]; omega) (by omega) (by omega)
    rw [e]
    by_cases c : o = k
    · subst c
      rw [h6, f2.1 _ (by omega)]
      exact q.2
    · rw [gA y o 1 (by omega) (by omega) (by omega) (by omega)]
      exact q.2
  · by_cases c : o = k
    · subst c
      exact ⟨hV, hT⟩
    · have q := hc2 o (by omega)
      exact ⟨hV2 y o (by omega) (by omega) (by omega) q.1 (gA y o 1 (by omega) (by omega) (by omega) (by omega)), hT2 y o (by omega) c q.2 ⟨gA y o 2 (by omega) (by omega) (by omega) (by omega), gA y o 3 (by omega) (by omega) (by omega) (by omega)⟩⟩
  · have q := hO y' o' c1 c2
    exact ⟨q.1, hV2 y' o' (by omega) (by omega) (by omega) q.2.1 (gA y' o' 1 (by omega) (by omega) (by omega) (by omega)), fun d1 d2 => hT2 y' o' (by omega) (by omega) (q.2.2 (by omega) d2) ⟨gA y' o' 2 (by omega) (by omega) (by omega) (by omega), gA y' o' 3 (by omega) (by omega) (by omega) (by omega)⟩⟩
  · rw [g3 a (by omega)]
    exact f2.1 a c2
/-- from the first loop to the second -/
theorem ye12 {T : zTt} {FR : zFR} {AR : zAR} {F : zFI} {A : zAI} {B D y m : Nat} {N : Int → Int} (hG : mG N) (hy : N 0 = y) (gy : y < 39) (hm : N 2 = m) (h : ye1 B D y N m T FR AR F A) : ye2 B D y m (zit nBr N m) 0 T FR AR F A := by
  obtain ⟨hd, hc, hB, hs, hK, ho, hO⟩ := h
  have w := hG.1.2.2.1
  have e : ∀ k : Nat, k ≤ m → ∀ j : Int, 435 ≤ j → (∀ o : Int, 0 ≤ o → o < 3 → j ≠ 435 + 240 * o + 6 * y + 5) → zit nBr N k j = N j := by
    intro k
    induction k with
    | zero => intro _ j _ _; rfl
    | succ k ih =>
      intro hk j h1 h2
      have z := zit_Br hG k (by omega)
      have m0 : zit nBr N k 0 = y := (z.2 0 (by omega)).trans hy
      exact (nBr_ne z.1 (by omega) (Or.inr h1) (by rw [m0]; exact h2 k (by omega) (by omega))).trans (ih (by omega) j h1 h2)
  refine ⟨hd, hc, hB, hs, hK, ho, fun o g => by omega, fun y' o' c1 c2 => ?_⟩
  have q := hO y' o' (by omega) (by omega)
  refine ⟨q.1, kV_c q.2.1 rfl (fun f a b => e m (by omega) _ (by omega) (fun o a b => by omega)), fun _ d => kT_c (q.2.2 (by omega)) ⟨rfl, rfl⟩ (fun t a b _ => ⟨e m (by omega) _ (by omega) (fun o a b => by omega), e m (by omega) _ (by omega) (fun o a b => by omega)⟩)⟩
/-- behind the second loop -/
theorem ye2_end {T : zTt} {FR : zFR} {AR : zAR} {F : zFI} {A : zAI} {B D y m : Nat} {N : Int → Int} (hG : mG N) (hy : N 0 = y) (gy : y < 39) (hm : N 2 = m) (h : ye2 B D y m (zit nBr N m) m T FR AR F A) : bk (zsF F B 4 ((y : Int) + 1)) A B (nYear N) ∧ cOK AR A (nYear N) := by
  obtain ⟨hd, hc, hB, hs, hK, h6s, hc2, hO⟩ := h
  have w := hG.1.2.2.1
  have z := zit_Br hG m (by omega)
  have zc := zit_Cs z.1 m (by omega)
  have eY : nYear N = zu1 (zit nCs (zit nBr N m) m) 0 ((y : Int) + 1) := by
    unfold nYear
    rw [hm, hy]
    rfl
  have e2 : nYear N 2 = m := by
    rw [eY, zu1_ne (by omega), zc.2 2 (by omega) (by omega), z.2 2 (by omega)]
    exact hm
  have e0 : nYear N 0 = (y : Int) + 1 := by rw [eY, zu1_eq]
  refine ⟨by rw [eY]; exact bk_year hK, fun y' o' g1 g2 => ?_⟩
  rw [e2] at g1
  rw [e0] at g2
  have eV : ∀ {A0 : zAI} {K : Nat} {o y : Int}, 0 ≤ o → 0 ≤ y → kV A0 K (zit nCs (zit nBr N m) m) o y → kV A0 K (nYear N) o y := fun a b q => kV_c q rfl (fun f c d => by rw [eY]; exact zu1_ne (by omega))
  by_cases c : y' = y
  · subst c
    have q := hc2 o' (by omega)
    refine ⟨(h6s o' (by omega)).1, eV (by omega) (by omega) q.1, fun _ => kT_c q.2 ⟨rfl, rfl⟩ (fun t a b _ => by rw [eY]; exact ⟨zu1_ne (by omega), zu1_ne (by omega)⟩)⟩
  · have q := hO y' o' (by omega) (by omega)
    exact ⟨q.1, eV (by omega) (by omega) q.2.1, fun e => by rw [e0] at e; omega⟩
