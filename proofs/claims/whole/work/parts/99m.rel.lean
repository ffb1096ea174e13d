/-! THE TWO SIDES: what holds between the class (desk 0) and the reference (100) -/
def rEq (N N1 : Int → Int) : Prop := ∀ j : Int, 0 ≤ j → j < 1395 → N1 j = N j
theorem mG_b {N : Int → Int} (g : mG N) : (0 ≤ N 0 ∧ N 0 ≤ 39) ∧ (1 ≤ N 2 ∧ N 2 ≤ 3) ∧ (0 ≤ N 3 ∧ N 3 ≤ 30) ∧ (0 ≤ N 4 ∧ N 4 ≤ 10) := by
  obtain ⟨w0, w1, w2, w3, w4, w5, w6, -⟩ := g.1
  omega
theorem mG_E {N N1 : Int → Int} (h : mG N) (e : rEq N N1) : mG N1 := by
  obtain ⟨a, b, c⟩ := h
  refine ⟨?_, ⟨fun j p q => by rw [e j (by omega) (by omega)]; exact b.1 j p q, fun j p q => by rw [e j (by omega) (by omega)]; exact b.2 j p q⟩, fun o y p q r s => by rw [e _ (by omega) (by omega), e _ (by omega) (by omega)]; exact c o y p q r s⟩
  rw [e 3 (by omega) (by omega), e 4 (by omega) (by omega)]
  exact mW_c (fun j p q => e j p (by omega)) a
theorem bk_E {F : zFI} {A : zAI} {B : Nat} {N N1 : Int → Int} (h : bk F A B N) (g : mG N) (e : rEq N N1) : bk F A B N1 := by
  have q := mG_b g
  exact bk_same h (by omega) (fun j p q => e j p (by omega))
theorem cOK_E {AR : zAR} {A : zAI} {N N1 : Int → Int} (h : cOK AR A N) (g : mG N) (e : rEq N N1) : cOK AR A N1 := fun y o g1 g2 => by
  have b := mG_b g
  rw [e 2 (by omega) (by omega)] at g1
  rw [e 0 (by omega) (by omega)] at g2
  have q := h y o g1 g2
  refine ⟨q.1, kV_c q.2.1 rfl (fun f c d => e _ (by omega) (by omega)), fun d => ?_⟩
  rw [e 0 (by omega) (by omega)] at d
  exact kT_c (q.2.2 d) ⟨rfl, rfl⟩ (fun t c d _ => ⟨e _ (by omega) (by omega), e _ (by omega) (by omega)⟩)
theorem cOK_fr {AR AR1 : zAR} {A A1 : zAI} {N : Int → Int} (h : cOK AR A N) (g : mG N) (hR : ∀ y o : Nat, (y : Int) < N 0 → o < 3 → AR1 16 ((y : Int) * 3 + o) = AR 16 ((y : Int) * 3 + o)) (hA : ∀ y o : Nat, (y : Int) < N 0 → o < 3 → ∀ a, kH y o + 1 ≤ a → a ≤ kH y o + 3 → A1 a = A a) : cOK AR1 A1 N := fun y o g1 g2 => by
  have b := mG_b g
  have q := h y o g1 g2
  exact ⟨(hR y o g2 (by omega)).trans q.1, kV_c q.2.1 (hA y o g2 (by omega) _ (by omega) (by omega)) (fun _ _ _ => rfl), fun d => kT_c (q.2.2 d) ⟨hA y o g2 (by omega) _ (by omega) (by omega), hA y o g2 (by omega) _ (by omega) (by omega)⟩ (fun _ _ _ _ => ⟨rfl, rfl⟩)⟩
/-- a slot of the acts: its book -/
def sl (s : Int) : Nat := 30 + 5 * s.toNat
def bSl (T : zTt) (FR : zFR) (AR : zAR) (s : Int) : Prop := (AR 15 s = some (sl s) ∧ bLay T FR (sl s)) ∨ (AR 15 s = none ∧ ∀ k, sl s ≤ k → k ≤ sl s + 4 → (T k).1 = 0)
def sIx (FI : zFI) (r : Nat) : Int := (FI 14 1 + 10 - FI 100 14 + r) % 10
def sRow (AI : zAI) (r : Nat) : Int → Int := fun j => AI 113 (1395 * (r : Int) + j)
def lRl (T : zTt) (FR : zFR) (AR : zAR) (B D : Nat) : Prop := ((B = 20 ∧ D = 25) ∨ (B = 25 ∧ D = 20)) ∧ dLay T FR B D ∧ cLay T FR ∧ bLay T FR B ∧ bLay T FR D ∧ mLay T FR ∧ T 90 = (4, 1) ∧ kSA T FR AR ∧ ∀ s : Int, 0 ≤ s → s < 10 → bSl T FR AR s
def lRt (FI : zFI) (AI : zAI) : Prop := FI 1 1 = FI 100 2 ∧ (0 ≤ FI 100 2 ∧ FI 100 2 ≤ 640) ∧ (∀ j : Int, 0 ≤ j → j < FI 100 2 → AI 2 j % 256 = AI 101 j) ∧ ∀ i : Int, 0 ≤ AI 101 i ∧ AI 101 i ≤ 255
def lRs (AR : zAR) (FI : zFI) (AI : zAI) (B : Nat) : Prop := mG (AI 111) ∧ bk FI AI B (AI 111) ∧ cOK AR AI (AI 111) ∧ FI 3 8 = FI 100 8 ∧ FI 14 2 = FI 100 14 ∧ (0 ≤ FI 100 14 ∧ FI 100 14 ≤ 10) ∧ (0 ≤ FI 14 1 ∧ FI 14 1 < 10) ∧ (∀ r : Nat, (r : Int) < FI 100 14 → AR 15 (sIx FI r) = some (sl (sIx FI r)) ∧ bk FI AI (sl (sIx FI r)) (sRow AI r) ∧ mG (sRow AI r) ∧ cOK AR AI (sRow AI r) ∧ sRow AI r 0 ≤ AI 111 0) ∧ ∀ r r' : Nat, r ≤ r' → (r' : Int) < FI 100 14 → sRow AI r 0 ≤ sRow AI r' 0
def lR (T : zTt) (FR : zFR) (AR : zAR) (FI : zFI) (AI : zAI) (B D : Nat) : Prop := lRl T FR AR B D ∧ lRt FI AI ∧ lRs AR FI AI B
theorem sIx_b (FI : zFI) (r : Nat) : 0 ≤ sIx FI r ∧ sIx FI r < 10 := by
  unfold sIx
  omega
theorem sl_b {s : Int} (h0 : 0 ≤ s) (h1 : s < 10) : 30 ≤ sl s ∧ sl s ≤ 75 ∧ (sl s : Int) = 30 + 5 * s := by
  unfold sl
  omega
/-- nothing but the cover, the reference's rows of work, the tapes has changed -/
theorem lRs_fr {AR : zAR} {FI F1 : zFI} {AI A1 : zAI} {B : Nat} (hB : B = 20 ∨ B = 25) (h : lRs AR FI AI B) (hF : ∀ o j, o ≠ 5 → o ≠ 1 → o ≠ 100 ∨ j = 8 ∨ j = 14 → F1 o j = FI o j) (hA : ∀ a, a < 6 ∨ 13 < a → a ≠ 2 → a ≠ 90 → a ≠ 101 → a ≠ 112 → a < 116 ∨ 124 < a → A1 a = AI a) : lRs AR F1 A1 B := by
  obtain ⟨r1, r2, r3, r4, r5, r6, r7, r8, r9⟩ := h
  have e111 : A1 111 = AI 111 := hA 111 (by omega) (by omega) (by omega) (by omega) (by omega) (by omega)
  have e113 : A1 113 = AI 113 := hA 113 (by omega) (by omega) (by omega) (by omega) (by omega) (by omega)
  have es : ∀ r, sRow A1 r = sRow AI r := fun r => by unfold sRow; rw [e113]
  have ei : ∀ r, sIx F1 r = sIx FI r := fun r => by unfold sIx; rw [hF 14 1 (by omega) (by omega) (by omega), hF 100 14 (by omega) (by omega) (by omega)]
  have eH : ∀ y' o' : Nat, kH y' o' = 200 + 4 * (3 * y' + o') := fun _ _ => rfl
  have hc : ∀ {N : Int → Int}, mG N → cOK AR AI N → cOK AR A1 N := fun g c => cOK_fr c g (fun _ _ _ _ => rfl) (fun y o _ _ a p q => hA a (by have := eH y o; omega) (by have := eH y o; omega) (by have := eH y o; omega) (by have := eH y o; omega) (by have := eH y o; omega) (by have := eH y o; omega))
  have hb : ∀ {K : Nat} {N : Int → Int}, 20 ≤ K → K ≤ 75 → bk FI AI K N → bk F1 A1 K N := fun g1 g2 k => bk_fr k (fun j _ _ => hF _ j (by omega) (by omega) (by omega)) (fun a p q => hA a (by omega) (by omega) (by omega) (by omega) (by omega) (by omega))
  refine ⟨by rw [e111]; exact r1, by rw [e111]; exact hb (by omega) (by omega) r2, by rw [e111]; exact hc r1 r3, by rw [hF 3 8 (by omega) (by omega) (by omega), hF 100 8 (by omega) (by omega) (by omega)]; exact r4, by rw [hF 14 2 (by omega) (by omega) (by omega), hF 100 14 (by omega) (by omega) (by omega)]; exact r5, by rw [hF 100 14 (by omega) (by omega) (by omega)]; exact r6, by rw [hF 14 1 (by omega) (by omega) (by omega)]; exact r7, fun r g => ?_, fun r r' g1 g2 => ?_⟩
  · rw [hF 100 14 (by omega) (by omega) (by omega)] at g
    obtain ⟨q1, q2, q3, q4, q5⟩ := r8 r g
    have b := sIx_b FI r
    have c := sl_b b.1 b.2
    rw [es, ei, e111]
    exact ⟨q1, hb (by omega) (by omega) q2, q3, hc q3 q4, q5⟩
  · rw [hF 100 14 (by omega) (by omega) (by omega)] at g2
    rw [es, es]
    exact r9 r r' g1 g2
theorem lR_fr {T : zTt} {FR : zFR} {AR : zAR} {FI F1 : zFI} {AI A1 : zAI} {B D : Nat} (h : lR T FR AR FI AI B D) (hF : ∀ o j, o ≠ 5 → o ≠ 100 ∨ j = 2 ∨ j = 8 ∨ j = 14 → F1 o j = FI o j) (hA : ∀ a, a < 6 ∨ 13 < a → a ≠ 90 → a ≠ 112 → a < 116 ∨ 124 < a → A1 a = AI a) : lR T FR AR F1 A1 B D := by
  obtain ⟨h1, h2, h3⟩ := h
  refine ⟨h1, ?_, lRs_fr (by have := h1.1; omega) h3 (fun o j a b c => hF o j a (by omega)) (fun a p1 p2 p3 p4 p5 p6 => hA a p1 p3 p5 p6)⟩
  unfold lRt
  rw [hF 1 1 (by omega) (by omega), hF 100 2 (by omega) (by omega), hA 2 (by omega) (by omega) (by omega) (by omega), hA 101 (by omega) (by omega) (by omega) (by omega)]
  exact h2
/-- an act: one more row is kept -/
theorem lRs_push {AR AR3 : zAR} {FI FI3 : zFI} {AI AI3 : zAI} {B : Nat} {N1 : Int → Int} {q' : Int} (hB : B = 20 ∨ B = 25) (h : lRs AR FI AI B)
    (hF : ∀ o j, o < 200 → o ≠ B → o ≠ 5 → o < sl (FI 14 1) ∨ sl (FI 14 1) + 4 < o → o ≠ 14 → o ≠ 100 ∨ j = 2 ∨ j = 8 → FI3 o j = FI o j) (e1 : FI3 14 1 = (FI 14 1 + 1) % 10) (e2 : FI3 14 2 = min (FI 14 2 + 1) 10) (e3 : FI3 100 14 = q' + 1)
    (hA : ∀ a, sl (FI 14 1) + 4 < a ∧ a ≤ 79 ∨ 30 ≤ a ∧ a < sl (FI 14 1) ∨ (200 ≤ a ∧ (a < 200 + 12 * (AI 111 0).toNat ∨ 212 + 12 * (AI 111 0).toNat ≤ a)) → AI3 a = AI a)
    (hS : zSnp (AI 113) (AI 111) (FI 100 14) (AI3 113) q') (hN : AI3 111 = N1) (hG1 : mG N1) (hb1 : bk FI3 AI3 B N1) (hc1 : cOK AR3 AI3 N1) (hy : AI 111 0 ≤ N1 0)
    (hs : bk FI3 AI3 (sl (FI 14 1)) (AI 111)) (hsl : AR3 15 (FI 14 1) = some (sl (FI 14 1))) (hR15 : ∀ s, s ≠ FI 14 1 → AR3 15 s = AR 15 s)
    (hR16 : ∀ y o : Nat, (y : Int) < AI 111 0 → o < 3 → AR3 16 ((y : Int) * 3 + o) = AR 16 ((y : Int) * 3 + o)) : lRs AR3 FI3 AI3 B := by
  obtain ⟨r1, r2, r3, r4, r5, r6, r7, r8, r9⟩ := h
  obtain ⟨s1, s2, s3⟩ := hS
  have b0 := mG_b r1
  have eH : ∀ y' o' : Nat, kH y' o' = 200 + 4 * (3 * y' + o') := fun _ _ => rfl
  have x0 := sl_b r7.1 r7.2
  have hq : q' = (if FI 100 14 = 10 then 9 else FI 100 14) := s1
  have hq2 : (FI 100 14 = 10 ∧ q' = 9) ∨ (FI 100 14 < 10 ∧ q' = FI 100 14) := by
    by_cases c : FI 100 14 = 10
    · rw [if_pos c] at hq; exact Or.inl ⟨c, hq⟩
    · rw [if_neg c] at hq; exact Or.inr ⟨by omega, hq⟩
  have hc : ∀ {N : Int → Int}, mG N → N 0 ≤ AI 111 0 → cOK AR AI N → cOK AR3 AI3 N := fun {N} g gy c => cOK_fr c g (fun y o p q => hR16 y o (by omega) q) (fun y o p q a x z => hA a (by have := eH y o; omega))
  -- rows that stay
  have old : ∀ r : Nat, (r : Int) < q' → ∃ r0 : Nat, (r0 : Int) < FI 100 14 ∧ ((FI 100 14 = 10 ∧ r0 = r + 1) ∨ (FI 100 14 < 10 ∧ r0 = r)) ∧ rEq (sRow AI r0) (sRow AI3 r) ∧ sIx FI3 r = sIx FI r0 ∧ sIx FI r0 ≠ FI 14 1 := fun r hr => by
    refine ⟨if FI 100 14 = 10 then r + 1 else r, ?_, ?_, fun j p q => ?_, ?_, ?_⟩
    · split <;> omega
    · split
      · rename_i c; exact Or.inl ⟨c, rfl⟩
      · rename_i c; exact Or.inr ⟨by omega, rfl⟩
    · have z := s2 r j (by omega) hr p q
      show AI3 113 (1395 * (r : Int) + j) = AI 113 (1395 * (((if FI 100 14 = 10 then r + 1 else r : Nat)) : Int) + j)
      rw [z]
      congr 2
      split
      · push_cast; rfl
      · rfl
    · unfold sIx
      rw [e1, e3]
      split <;> omega
    · unfold sIx
      split <;> omega
  have last : ∀ r : Nat, (r : Int) = q' → rEq (AI 111) (sRow AI3 r) ∧ sIx FI3 r = FI 14 1 := fun r hr => by
    refine ⟨fun j p q => ?_, ?_⟩
    · show AI3 113 (1395 * (r : Int) + j) = AI 111 j
      rw [hr]; exact s3 j p q
    · unfold sIx
      rw [e1, e3]
      omega
  have r0of : ∀ {N N' : Int → Int}, rEq N N' → N' 0 = N 0 := fun e => e 0 (by omega) (by omega)
  refine ⟨by rw [hN]; exact hG1, by rw [hN]; exact hb1, by rw [hN]; exact hc1, ?_, by rw [e2, e3, r5]; omega, by rw [e3]; omega, by rw [e1]; omega, fun r g => ?_, fun r r' g1 g2 => ?_⟩
  · rw [hF 3 8 (by omega) (by omega) (by omega) (by omega) (by omega) (by omega), hF 100 8 (by omega) (by omega) (by omega) (by omega) (by omega) (by omega)]
    exact r4
  · rw [e3] at g
    rw [hN]
    by_cases c : (r : Int) = q'
    · obtain ⟨z1, z2⟩ := last r c
      rw [z2]
      refine ⟨hsl, bk_E hs r1 z1, mG_E r1 z1, cOK_E (hc r1 (by omega) r3) r1 z1, ?_⟩
      rw [r0of z1]; exact hy
    · obtain ⟨r0, z1, z2, z3, z4, z5⟩ := old r (by omega)
      obtain ⟨q1, q2, q3, q4, q5⟩ := r8 r0 z1
      have b := sIx_b FI r0
      have c := sl_b b.1 b.2
      rw [z4]
      refine ⟨(hR15 _ z5).trans q1, bk_E (bk_fr q2 (fun j _ _ => hF _ j (by omega) (by omega) (by omega) (by omega) (by omega) (by omega)) (fun a p q => hA a (by omega))) q3 z3, mG_E q3 z3, cOK_E (hc q3 q5 q4) q3 z3, ?_⟩
      rw [r0of z3]; omega
  · rw [e3] at g2
    by_cases c' : (r' : Int) = q'
    · obtain ⟨z1', -⟩ := last r' c'
      rw [r0of z1']
      by_cases c : (r : Int) = q'
      · obtain ⟨z1, -⟩ := last r c
        rw [r0of z1]; omega
      · obtain ⟨r0, z1, z2, z3, -⟩ := old r (by omega)
        rw [r0of z3]
        exact (r8 r0 z1).2.2.2.2
    · obtain ⟨r0', z1', z2', z3', -⟩ := old r' (by omega)
      obtain ⟨r0, z1, z2, z3, -⟩ := old r (by omega)
      rw [r0of z3, r0of z3']
      exact r9 r0 r0' (by omega) z1'
/-- the lay behind keep -/
theorem lRl_keep {T T1 : zTt} {FR FR1 : zFR} {AR AR1 : zAR} {FI F1 : zFI} {AI A1 : zAI} {N : Int → Int} {B D : Nat} (h : lRl T FR AR B D) (x0 : 0 ≤ FI 14 1) (x1 : FI 14 1 < 10) (kp : kpR (sl (FI 14 1)) T T1 FR FR1 AR AR1 FI F1 AI A1 N) : lRl T1 FR1 AR1 B D := by
  obtain ⟨h1, h2, h3, h4, h5, h6, h7, h8, h9⟩ := h
  have xs := sl_b x0 x1
  have gT : ∀ k, k < sl (FI 14 1) ∨ sl (FI 14 1) + 4 < k → T1 k = T k ∧ FR1 k = FR k := fun k a => ⟨(kp.1 k a).1, (kp.1 k a).2.1⟩
  have eH : ∀ y' o' : Nat, kH y' o' = 200 + 4 * (3 * y' + o') := fun _ _ => rfl
  refine ⟨h1, dLay_gr h2 (fun k a => gT k (by omega)), cLay_gr h3 (fun k a => gT k (by omega)), bLay_gr h4 (fun k a b => gT k (by omega)), bLay_gr h5 (fun k a b => gT k (by omega)), ?_, by rw [(gT 90 (by omega)).1]; exact h7, fun y o g1 g2 => kS_gr (h8 y o g1 g2) (fun k a b => gT k (by have := eH y o; omega)) (kp.2.2.2.1 16 _ (by omega) (by omega)), fun s a b => ?_⟩
  · unfold mLay
    rw [(gT 100 (by omega)).1, (gT 101 (by omega)).1, (gT 111 (by omega)).1, (gT 112 (by omega)).1, (gT 113 (by omega)).1, (gT 116 (by omega)).1, (gT 117 (by omega)).1, (gT 118 (by omega)).1, (gT 119 (by omega)).1, (gT 120 (by omega)).1, (gT 121 (by omega)).1, (gT 122 (by omega)).1, (gT 123 (by omega)).1, (gT 124 (by omega)).1, (gT 100 (by omega)).2]
    exact h6
  · by_cases c : s = FI 14 1
    · subst c
      exact Or.inl ⟨kp.2.2.1, kp.2.2.2.2.1⟩
    · have b2 := sl_b a b
      rcases h9 s a b with ⟨z1, z2⟩ | ⟨z1, z2⟩
      · exact Or.inl ⟨(kp.2.2.2.1 15 s (by omega) (Or.inr c)).trans z1, bLay_gr z2 (fun k p q => gT k (by omega))⟩
      · exact Or.inr ⟨(kp.2.2.2.1 15 s (by omega) (Or.inr c)).trans z1, fun k p q => by rw [(gT k (by omega)).1]; exact z2 k p q⟩
/-- what keep wants -/
theorem lR_slot {T : zTt} {FR : zFR} {AR : zAR} {B D : Nat} (h : lRl T FR AR B D) {s : Int} (a : 0 ≤ s) (b : s < 10) : (AR 15 s = some (sl s) ∧ bLay T FR (sl s)) ∨ (AR 15 s = none ∧ ∀ k, sl s ≤ k → k ≤ sl s + 4 → (T k).1 = 0) := h.2.2.2.2.2.2.2.2 s a b
