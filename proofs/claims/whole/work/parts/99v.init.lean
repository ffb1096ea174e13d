/-! THE START: both sides new -/
theorem mG_0 {N : Int → Int} (h : ∀ i : Int, N i = if i = 2 then 1 else 0) : mG N := by
  have e : ∀ i : Int, i ≠ 2 → N i = 0 := fun i hi => by rw [h i, if_neg hi]
  have e2 : N 2 = 1 := by rw [h 2, if_pos rfl]
  refine ⟨⟨by rw [e 0 (by omega)]; omega, by rw [e 1 (by omega)]; omega, by rw [e2]; omega, by rw [e 3 (by omega)]; rfl, by rw [e 3 (by omega)]; decide, by rw [e 4 (by omega)]; rfl, by rw [e 4 (by omega)]; decide, fun o y a b c d => by rw [e _ (by omega), e _ (by omega)]; omega, fun i a b => ?_, fun i a b => ?_⟩, ⟨fun j a b => by rw [e j (by omega)]; omega, fun j a b => by rw [e j (by omega)]; omega⟩, fun o y a b c d => by rw [e _ (by omega), e _ (by omega)]; omega⟩
  · rw [e 3 (by omega)] at b
    have : (((0 : Int).toNat : Nat) : Int) = 0 := rfl
    omega
  · rw [e 4 (by omega)] at b
    have : (((0 : Int).toNat : Nat) : Int) = 0 := rfl
    omega
theorem lR_0 {T1 T2 : zTt} {FR1 FR2 : zFR} {AR1 AR2 : zAR} {FI1 FI2 : zFI} {AI1 AI2 : zAI}
    (a0 : ∀ h, 29 < h → (T1 h).1 = 0) (a1 : dLay T1 FR1 20 25) (a2 : cLay T1 FR1) (a3 : bLay T1 FR1 20) (a4 : bLay T1 FR1 25) (a5 : FI1 1 1 = 0) (a6 : ∀ j, FI1 3 j = 0) (a7 : ∀ j, FI1 14 j = 0) (a8 : ∀ i, AR1 15 i = none) (a9 : ∀ i, AR1 16 i = none) (a10 : FI1 20 6 = 1 ∧ (∀ j, j ≠ 6 → FI1 20 j = 0) ∧ ∀ a i, 21 ≤ a → a ≤ 24 → AI1 a i = 0)
    (gr : zGr 100 124 (zsT T1 100 (1, 7)) T2 (zzR FR1 100) FR2 (zzQ AR1 100) AR2 (zzF FI1 100) FI2 (zzA AI1 100) AI2) (c1 : mLay T2 FR2) (c2 : ∀ j, FI2 100 j = zzF FI1 100 100 j) (c3 : ∀ (a : Nat) (i : Int), a = 101 ∨ a = 111 ∨ a = 112 ∨ a = 113 ∨ a = 116 ∨ a = 117 ∨ a = 118 ∨ a = 119 ∨ a = 120 ∨ a = 121 ∨ a = 122 ∨ a = 123 ∨ a = 124 → AI2 a i = if a = 111 ∧ i = 2 then 1 else 0) :
    lR (zsT T2 90 (4, 1)) (zzR FR2 90) (zzQ AR2 90) (zzF FI2 90) (zzA AI2 90) 20 25 := by
  have q : ∀ h, h < 100 ∨ 124 < h → T2 h = T1 h ∧ FR2 h = FR1 h ∧ AR2 h = AR1 h ∧ FI2 h = FI1 h ∧ AI2 h = AI1 h := fun h a => by
    have z := gr h a
    rw [zsT_ne (by omega), zzR_neF (by omega), zzQ_neF (by omega), zzF_neF (by omega), zzA_neF (by omega)] at z
    exact z
  have e : ∀ h, h ≠ 90 → zsT T2 90 (4, 1) h = T2 h ∧ zzR FR2 90 h = FR2 h := fun h p => ⟨zsT_ne p, zzR_neF p⟩
  have gT : ∀ h, h < 90 → zsT T2 90 (4, 1) h = T1 h ∧ zzR FR2 90 h = FR1 h := fun h p => ⟨(e h (by omega)).1.trans (q h (by omega)).1, (e h (by omega)).2.trans (q h (by omega)).2.1⟩
  have eF : ∀ h, h < 90 → zzF FI2 90 h = FI1 h := fun h p => (zzF_neF (by omega)).trans (q h (by omega)).2.2.2.1
  have eA : ∀ h, h < 90 → zzA AI2 90 h = AI1 h := fun h p => (zzA_neF (by omega)).trans (q h (by omega)).2.2.2.2
  have eQ : ∀ h, h < 90 → zzQ AR2 90 h = AR1 h := fun h p => (zzQ_neF (by omega)).trans (q h (by omega)).2.2.1
  have m0 : ∀ j, zzF FI2 90 100 j = 0 := fun j => by rw [zzF_neF (by omega), c2 j]; exact zzF_eq
  have N0 : ∀ i : Int, zzA AI2 90 111 i = if i = 2 then 1 else 0 := fun i => by
    rw [zzA_neF (by omega), c3 111 i (by omega)]
    by_cases c : i = 2
    · rw [if_pos ⟨rfl, c⟩, if_pos c]
    · rw [if_neg (fun z => c z.2), if_neg c]
  have Ne : ∀ i : Int, i ≠ 2 → zzA AI2 90 111 i = 0 := fun i hi => by rw [N0 i, if_neg hi]
  have eH : ∀ y' o' : Nat, kH y' o' = 200 + 4 * (3 * y' + o') := fun _ _ => rfl
  refine ⟨⟨Or.inl ⟨rfl, rfl⟩, dLay_gr a1 (fun k a => gT k (by omega)), cLay_gr a2 (fun k a => gT k (by omega)), bLay_gr a3 (fun k a b => gT k (by omega)), bLay_gr a4 (fun k a b => gT k (by omega)), ?_, zsT_eq, fun y o g1 g2 => Or.inr ⟨by rw [eQ 16 (by omega)]; exact a9 _, fun k p1 p2 => ?_⟩, fun s g1 g2 => Or.inr ⟨by rw [eQ 15 (by omega)]; exact a8 _, fun k p1 p2 => ?_⟩⟩, ⟨?_, ?_, fun j p1 p2 => ?_, fun i => ?_⟩, mG_0 N0, ?_, fun y o g1 g2 => ?_, ?_, ?_, ?_, ?_, fun r g => ?_, fun r r' g1 g2 => ?_⟩
  · unfold mLay
    rw [(e 100 (by omega)).1, (e 101 (by omega)).1, (e 111 (by omega)).1, (e 112 (by omega)).1, (e 113 (by omega)).1, (e 116 (by omega)).1, (e 117 (by omega)).1, (e 118 (by omega)).1, (e 119 (by omega)).1, (e 120 (by omega)).1, (e 121 (by omega)).1, (e 122 (by omega)).1, (e 123 (by omega)).1, (e 124 (by omega)).1, (e 100 (by omega)).2]
    exact c1
  · have := eH y o
    rw [(e k (by omega)).1, (q k (by omega)).1]
    exact a0 k (by omega)
  · have := sl_b g1 g2
    rw [(gT k (by omega)).1]
    exact a0 k (by omega)
  · rw [eF 1 (by omega), m0, a5]
  · rw [m0]; omega
  · rw [m0] at p2; omega
  · rw [zzA_neF (by omega), c3 101 i (by omega), if_neg (fun z => by omega)]; omega
  · refine ⟨?_, ?_, ?_, ?_, ?_, fun o y a b c d => ?_, fun o y a b c d => ?_, fun i f a b c d => ?_, fun i f a b c d => ?_⟩
    · rw [eF 20 (by omega), Ne 0 (by omega)]; exact a10.2.1 4 (by omega)
    · rw [eF 20 (by omega), Ne 1 (by omega)]; exact a10.2.1 5 (by omega)
    · rw [eF 20 (by omega), N0 2, if_pos rfl]; exact a10.1
    · rw [eF 20 (by omega), Ne 3 (by omega)]; exact a10.2.1 7 (by omega)
    · rw [eF 20 (by omega), Ne 4 (by omega)]; exact a10.2.1 8 (by omega)
    · rw [eA (20 + 1) (by omega), Ne _ (by omega)]; exact a10.2.2 _ _ (by omega) (by omega)
    · rw [eA (20 + 2) (by omega), Ne _ (by omega)]; exact a10.2.2 _ _ (by omega) (by omega)
    · rw [eA (20 + 3) (by omega), Ne _ (by omega)]; exact a10.2.2 _ _ (by omega) (by omega)
    · rw [eA (20 + 4) (by omega), Ne _ (by omega)]; exact a10.2.2 _ _ (by omega) (by omega)
  · rw [Ne 0 (by omega)] at g2; omega
  · rw [eF 3 (by omega), m0, a6]
  · rw [eF 14 (by omega), m0, a7]
  · rw [m0]; omega
  · rw [eF 14 (by omega), a7]; omega
  · rw [m0] at g; omega
  · rw [m0] at g2; omega
