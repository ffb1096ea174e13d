/-! CLOSINGS of a year: their handles, their places -/
def kH (y o : Nat) : Nat := 200 + 4 * (3 * y + o)
def kS (T : zTt) (FR : zFR) (AR : zAR) (y o : Nat) : Prop := (AR 16 ((y : Int) * 3 + o) = some (kH y o) ∧ kLay T FR (kH y o)) ∨ (AR 16 ((y : Int) * 3 + o) = none ∧ ∀ k, kH y o ≤ k → k ≤ kH y o + 3 → (T k).1 = 0)
def kSA (T : zTt) (FR : zFR) (AR : zAR) : Prop := ∀ y o : Nat, y < 39 → o < 3 → kS T FR AR y o
/-- what is kept of the years that are closed stands for the row's -/
def cOK (AR : zAR) (A : zAI) (N : Int → Int) : Prop := ∀ y o : Nat, (o : Int) < N 2 → (y : Int) < N 0 → AR 16 ((y : Int) * 3 + o) = some (kH y o) ∧ kV A (kH y o) N o y ∧ ((y : Int) + 1 = N 0 → kT A (kH y o) N o y)
/-- all but the book in use, the cover, the closings of year y stays -/
def yR (B y : Nat) (T T1 : zTt) (FR FR1 : zFR) (AR AR1 : zAR) (F F1 : zFI) (A A1 : zAI) : Prop :=
  (∀ h, h < 200 + 12 * y ∨ 212 + 12 * y ≤ h → T1 h = T h ∧ FR1 h = FR h) ∧
  (∀ h j, h < 200 + 12 * y ∨ 212 + 12 * y ≤ h → h ≠ B → h ≠ 5 → F1 h j = F h j) ∧
  (∀ a, a < 200 + 12 * y ∨ 212 + 12 * y ≤ a → a < 6 ∨ 13 < a → a < B + 1 ∨ B + 4 < a → A1 a = A a) ∧
  (∀ (a : Nat) (i : Int), a < 200 + 12 * y ∨ 212 + 12 * y ≤ a → a ≠ 16 ∨ i < (y : Int) * 3 ∨ (y : Int) * 3 + 3 ≤ i → AR1 a i = AR a i)
theorem yR.rfl {B y : Nat} {T : zTt} {FR : zFR} {AR : zAR} {F : zFI} {A : zAI} : yR B y T T FR FR AR AR F F A A := ⟨fun _ _ => ⟨Eq.refl _, Eq.refl _⟩, fun _ _ _ _ _ => Eq.refl _, fun _ _ _ _ => Eq.refl _, fun _ _ _ _ => Eq.refl _⟩
theorem yR.trans {B y : Nat} {T T1 T2 : zTt} {FR FR1 FR2 : zFR} {AR AR1 AR2 : zAR} {F F1 F2 : zFI} {A A1 A2 : zAI} (h : yR B y T T1 FR FR1 AR AR1 F F1 A A1) (g : yR B y T1 T2 FR1 FR2 AR1 AR2 F1 F2 A1 A2) : yR B y T T2 FR FR2 AR AR2 F F2 A A2 :=
  ⟨fun k a => ⟨((g.1 k a).1).trans (h.1 k a).1, ((g.1 k a).2).trans (h.1 k a).2⟩, fun k j a b c => (g.2.1 k j a b c).trans (h.2.1 k j a b c), fun k a b c => (g.2.2.1 k a b c).trans (h.2.2.1 k a b c), fun k i a b => (g.2.2.2 k i a b).trans (h.2.2.2 k i a b)⟩
theorem cLay_gr {T T1 : zTt} {FR FR1 : zFR} (h : cLay T FR) (g : ∀ k, k < 17 → T1 k = T k ∧ FR1 k = FR k) : cLay T1 FR1 := by
  unfold cLay
  rw [(g 5 (by omega)).1, (g 6 (by omega)).1, (g 7 (by omega)).1, (g 8 (by omega)).1, (g 9 (by omega)).1, (g 10 (by omega)).1, (g 11 (by omega)).1, (g 12 (by omega)).1, (g 13 (by omega)).1, (g 5 (by omega)).2]
  exact h
theorem kLay_gr {T T1 : zTt} {FR FR1 : zFR} {K : Nat} (h : kLay T FR K) (g : ∀ k, K ≤ k → k ≤ K + 3 → T1 k = T k ∧ FR1 k = FR k) : kLay T1 FR1 K := by
  unfold kLay
  rw [(g K (by omega) (by omega)).1, (g (K + 1) (by omega) (by omega)).1, (g (K + 2) (by omega) (by omega)).1, (g (K + 3) (by omega) (by omega)).1, (g K (by omega) (by omega)).2]
  exact h
theorem kS_gr {T T1 : zTt} {FR FR1 : zFR} {AR AR1 : zAR} {y o : Nat} (h : kS T FR AR y o) (g : ∀ k, kH y o ≤ k → k ≤ kH y o + 3 → T1 k = T k ∧ FR1 k = FR k) (e : AR1 16 ((y : Int) * 3 + o) = AR 16 ((y : Int) * 3 + o)) : kS T1 FR1 AR1 y o := by
  rcases h with ⟨a, b⟩ | ⟨a, b⟩
  · exact Or.inl ⟨e.trans a, kLay_gr b g⟩
  · exact Or.inr ⟨e.trans a, fun k c d => by rw [(g k c d).1]; exact b k c d⟩
theorem kV_c {A A1 : zAI} {K : Nat} {N N1 : Int → Int} {o y : Int} (h : kV A K N o y) (hA : A1 (K + 1) = A (K + 1)) (hN : ∀ f : Int, 0 ≤ f → f < 6 → N1 (435 + 240 * o + 6 * y + f) = N (435 + 240 * o + 6 * y + f)) : kV A1 K N1 o y := by
  unfold kV
  rw [hA, hN 3 (by omega) (by omega), hN 4 (by omega) (by omega), hN 5 (by omega) (by omega)]
  exact ⟨fun f a b => by rw [hN f a (by omega)]; exact h.1 f a b, h.2⟩
theorem kT_c {A A1 : zAI} {K : Nat} {N N1 : Int → Int} {o y : Int} (h : kT A K N o y) (hA : A1 (K + 2) = A (K + 2) ∧ A1 (K + 3) = A (K + 3)) (hN : ∀ t : Int, 0 ≤ t → t < 40 → y < t → N1 (1155 + 40 * o + t) = N (1155 + 40 * o + t) ∧ N1 (1275 + 40 * o + t) = N (1275 + 40 * o + t)) : kT A1 K N1 o y := fun t a b => by
  rw [hA.1, hA.2]
  have q := h t a b
  by_cases c : y < t
  · rw [if_pos c, if_pos c] at q ⊢
    rw [(hN t a b c).1, (hN t a b c).2]
    exact q
  · rw [if_neg c, if_neg c] at q ⊢
    exact q
/-- what closes leaves -/
theorem nCs_ne {M : Int → Int} {o j : Int} (h1 : j < 435 + 240 * o + 6 * M 0 ∨ 435 + 240 * o + 6 * M 0 + 5 ≤ j) (h2 : j < 1155 + 40 * o + (M 0 + 1) ∨ 1155 + 40 * o + 40 ≤ j) (h3 : j < 1275 + 40 * o + (M 0 + 1) ∨ 1275 + 40 * o + 40 ≤ j) : nCs M o j = M j := by
  unfold nCs nCloses nCl2
  rw [if_neg (by omega), if_neg (by omega)]
  unfold nCl1
  rw [zu1_ne (by omega), zu1_ne (by omega), zu1_ne (by omega), zu1_ne (by omega), zu1_ne (by omega)]
/-- what bears leaves, what it keeps -/
theorem nBr_ne {M : Int → Int} {o j : Int} (hG : mG M) (h0 : 0 ≤ o) (hj : (0 ≤ j ∧ j < 395 ∧ j ≠ 4) ∨ 435 ≤ j) (h : j ≠ 435 + 240 * o + 6 * M 0 + 5) : nBr M o j = M j := by
  unfold nBr
  rw [nBears_in hG.1 h0 j hj, nB1_hi h]
theorem nBr_at {M : Int → Int} {o : Int} (hG : mG M) (h0 : 0 ≤ o) : nBr M o (435 + 240 * o + 6 * M 0 + 5) = mInc M (M 3).toNat o := by
  have w0 := hG.1.1
  unfold nBr
  rw [nBears_in hG.1 h0 _ (by omega)]
  unfold nB1
  exact zu1_eq
/-! FILL: what it lays -/
def kFl (A : zAI) (K : Nat) (v0 v1 v2 v3 v4 v5 : Int) : zAI := zsA (zsA (zsA (zsA (zsA (zsA (zcpA (zcpA A 6 (K + 2) 0 0 40) 10 (K + 3) 0 0 40) (K + 1) 0 v0) (K + 1) 1 v1) (K + 1) 2 v2) (K + 1) 3 v3) (K + 1) 4 v4) (K + 1) 5 v5
theorem kFl_fr {A : zAI} {K : Nat} {v0 v1 v2 v3 v4 v5 : Int} {a : Nat} (h : a < K + 1 ∨ K + 3 < a) : kFl A K v0 v1 v2 v3 v4 v5 a = A a := by
  unfold kFl
  rw [zsA_neF (by omega), zsA_neF (by omega), zsA_neF (by omega), zsA_neF (by omega), zsA_neF (by omega), zsA_neF (by omega), zcpA_ne (by omega), zcpA_ne (by omega)]
theorem kFl_2 {A : zAI} {K : Nat} {v0 v1 v2 v3 v4 v5 : Int} {t : Int} (h0 : 0 ≤ t) (h1 : t < 40) : kFl A K v0 v1 v2 v3 v4 v5 (K + 2) t = A 6 t := by
  unfold kFl
  rw [zsA_neF (by omega), zsA_neF (by omega), zsA_neF (by omega), zsA_neF (by omega), zsA_neF (by omega), zsA_neF (by omega), zcpA_ne (by omega), zcpA_in h0 (by omega)]
  congr 1
  omega
theorem kFl_3 {A : zAI} {K : Nat} {v0 v1 v2 v3 v4 v5 : Int} {t : Int} (hK : 200 ≤ K) (h0 : 0 ≤ t) (h1 : t < 40) : kFl A K v0 v1 v2 v3 v4 v5 (K + 3) t = A 10 t := by
  unfold kFl
  rw [zsA_neF (by omega), zsA_neF (by omega), zsA_neF (by omega), zsA_neF (by omega), zsA_neF (by omega), zsA_neF (by omega), zcpA_in h0 (by omega), zcpA_ne (by omega)]
  congr 1
  omega
theorem kFl_1 {A : zAI} {K : Nat} {v0 v1 v2 v3 v4 v5 : Int} : kFl A K v0 v1 v2 v3 v4 v5 (K + 1) 0 = v0 ∧ kFl A K v0 v1 v2 v3 v4 v5 (K + 1) 1 = v1 ∧ kFl A K v0 v1 v2 v3 v4 v5 (K + 1) 2 = v2 ∧ kFl A K v0 v1 v2 v3 v4 v5 (K + 1) 3 = v3 ∧ kFl A K v0 v1 v2 v3 v4 v5 (K + 1) 4 = v4 ∧ kFl A K v0 v1 v2 v3 v4 v5 (K + 1) 5 = v5 ∧ kFl A K v0 v1 v2 v3 v4 v5 (K + 1) 6 = A (K + 1) 6 := by
  unfold kFl
  refine ⟨?_, ?_, ?_, ?_, ?_, zsA_eq, ?_⟩
  · rw [zsA_nj (by decide), zsA_nj (by decide), zsA_nj (by decide), zsA_nj (by decide), zsA_nj (by decide), zsA_eq]
  · rw [zsA_nj (by decide), zsA_nj (by decide), zsA_nj (by decide), zsA_nj (by decide), zsA_eq]
  · rw [zsA_nj (by decide), zsA_nj (by decide), zsA_nj (by decide), zsA_eq]
  · rw [zsA_nj (by decide), zsA_nj (by decide), zsA_eq]
  · rw [zsA_nj (by decide), zsA_eq]
  · rw [zsA_nj (by decide), zsA_nj (by decide), zsA_nj (by decide), zsA_nj (by decide), zsA_nj (by decide), zsA_nj (by decide), zcpA_ne (by omega), zcpA_ne (by omega)]
theorem ye_fill0 {T : zTt} {FR : zFR} {AR : zAR} {FI : zFI} {AI : zAI} {Post : zPost} {M : Int → Int} {y o : Nat} (hG : mG M) (hy : M 0 = y) (ho : o < 3) (hk : kLay T FR (kH y o)) (hc : cLay T FR) (hv : cV AI FI M (M 3).toNat (M 4).toNat o (-1) 0) (h6 : AI (kH y o + 1) 6 = M (435 + 240 * o + 6 * y + 5)) (y0 : y = 0)
    (hp : ∀ A2 : zAI, (∀ a, a < kH y o + 1 ∨ kH y o + 3 < a → A2 a = AI a) → kV A2 (kH y o) (nCs M o) o y → kT A2 (kH y o) (nCs M o) o y → A2 (kH y o + 1) 6 = AI (kH y o + 1) 6 → Post (zI 0) T FR AR FI A2) : zMet M_X3_fill [zR (kH y o), zR 5, zP none] T FR AR FI AI Post := by
  have gK : 200 ≤ kH y o := by unfold kH; omega
  refine s_X3_fill0 hk hc hG.1 hv (by omega) (by omega) gK ?_
  have v := kFl_1 (A := AI) (K := kH y o) (v0 := mLi M (M 3).toNat o) (v1 := mAs M (M 3).toNat (M 4).toNat o (-1) 0) (v2 := mUn M (M 3).toNat (M 4).toNat o (-1) 0) (v3 := mAs M (M 3).toNat (M 4).toNat o (-1) 0 - mLi M (M 3).toNat o - 0) (v4 := 0 - 0) (v5 := mAs M (M 3).toNat (M 4).toNat o (-1) 0 - mLi M (M 3).toNat o - 0 - (0 - 0))
  have q := kV_fill (A := kFl AI (kH y o) (mLi M (M 3).toNat o) (mAs M (M 3).toNat (M 4).toNat o (-1) 0) (mUn M (M 3).toNat (M 4).toNat o (-1) 0) (mAs M (M 3).toNat (M 4).toNat o (-1) 0 - mLi M (M 3).toNat o - 0) (0 - 0) (mAs M (M 3).toNat (M 4).toNat o (-1) 0 - mLi M (M 3).toNat o - 0 - (0 - 0))) (K := kH y o) (was := 0) (by' := 0) hG.1 hv (by omega) (by omega) (if_pos (by omega)).symm (if_pos (by omega)).symm v.1 v.2.1 v.2.2.1 v.2.2.2.1 v.2.2.2.2.1 v.2.2.2.2.2.1 (by rw [v.2.2.2.2.2.2, h6, hy]) (fun t a b => kFl_2 a b) (fun t a b => kFl_3 gK a b)
  rw [hy] at q
  exact hp _ (fun a ha => kFl_fr ha) q.1 q.2 v.2.2.2.2.2.2
theorem ye_fill1 {T : zTt} {FR : zFR} {AR : zAR} {FI : zFI} {AI : zAI} {Post : zPost} {M : Int → Int} {y o H : Nat} (hG : mG M) (hy : M 0 = y) (gy : y < 39) (ho : o < 3) (hk : kLay T FR (kH y o)) (hc : cLay T FR) (hv : cV AI FI M (M 3).toNat (M 4).toNat o (-1) 0) (h6 : AI (kH y o + 1) 6 = M (435 + 240 * o + 6 * y + 5)) (y0 : 0 < y) (eH : H = kH (y - 1) o) (hk2 : kLay T FR H) (hV : kV AI H M o ((y : Int) - 1)) (hT : kT AI H M o ((y : Int) - 1))
    (hp : ∀ A2 : zAI, (∀ a, a < kH y o + 1 ∨ kH y o + 3 < a → A2 a = AI a) → kV A2 (kH y o) (nCs M o) o y → kT A2 (kH y o) (nCs M o) o y → A2 (kH y o + 1) 6 = AI (kH y o + 1) 6 → Post (zI 0) T FR AR FI A2) : zMet M_X3_fill [zR (kH y o), zR 5, zR H] T FR AR FI AI Post := by
  have gK : 200 ≤ kH y o := by unfold kH; omega
  have gH : 200 ≤ H := by rw [eH]; unfold kH; omega
  obtain ⟨hW, hC, hb⟩ := id hG
  have cb := hb (o : Int) ((y : Int) - 1) (by omega) (by omega) (by omega) (by omega)
  have e0 := hV.1 0 (by omega) (by omega)
  have e1 := hV.1 1 (by omega) (by omega)
  have hSb : ∀ j : Int, 0 ≤ j → j < 40 → (0 ≤ AI (H + 2) j ∧ AI (H + 2) j ≤ 4000000) ∧ (0 ≤ AI (H + 3) j ∧ AI (H + 3) j ≤ 4000000) := fun j a b => by
    have q := hT j a b
    have c1 := hC.2 (1155 + 40 * o + j) (by omega) (by omega)
    have c2 := hC.2 (1275 + 40 * o + j) (by omega) (by omega)
    rw [q.1, q.2]
    by_cases c : (y : Int) - 1 < j
    · rw [if_pos c, if_pos c]; exact ⟨c1, c2⟩
    · rw [if_neg c, if_neg c]; omega
  have ewas : AI (H + 1) 1 - AI (H + 1) 0 = mWas M o := by
    unfold mWas
    rw [if_neg (by omega), e0, e1, hy, show 435 + 240 * (o : Int) + 6 * (y : Int) - 6 + 1 = 435 + 240 * (o : Int) + 6 * ((y : Int) - 1) + 1 by omega, show 435 + 240 * (o : Int) + 6 * (y : Int) - 6 + 0 = 435 + 240 * (o : Int) + 6 * ((y : Int) - 1) + 0 by omega]
  have eby := kT_by hW (by omega) (show kT AI H M o (M 0 - 1) by rw [hy]; exact hT) (fun t a b => (hv.1 t a b).2.2.1)
  refine s_X3_fill1 hk hc hG.1 hv (by omega) (by omega) gK hk2 gH (by rw [eH]; unfold kH; omega) (by rw [e0]; exact cb.1) (by rw [e1]; exact cb.2) hSb ?_
  rw [ewas, eby]
  have v := kFl_1 (A := AI) (K := kH y o) (v0 := mLi M (M 3).toNat o) (v1 := mAs M (M 3).toNat (M 4).toNat o (-1) 0) (v2 := mUn M (M 3).toNat (M 4).toNat o (-1) 0) (v3 := mAs M (M 3).toNat (M 4).toNat o (-1) 0 - mLi M (M 3).toNat o - mWas M o) (v4 := mByR M o - mWas M o) (v5 := mAs M (M 3).toNat (M 4).toNat o (-1) 0 - mLi M (M 3).toNat o - mWas M o - (mByR M o - mWas M o))
  have q := kV_fill (A := kFl AI (kH y o) (mLi M (M 3).toNat o) (mAs M (M 3).toNat (M 4).toNat o (-1) 0) (mUn M (M 3).toNat (M 4).toNat o (-1) 0) (mAs M (M 3).toNat (M 4).toNat o (-1) 0 - mLi M (M 3).toNat o - mWas M o) (mByR M o - mWas M o) (mAs M (M 3).toNat (M 4).toNat o (-1) 0 - mLi M (M 3).toNat o - mWas M o - (mByR M o - mWas M o))) (K := kH y o) (was := mWas M o) (by' := mByR M o) hG.1 hv (by omega) (by omega) rfl rfl v.1 v.2.1 v.2.2.1 v.2.2.2.1 v.2.2.2.2.1 v.2.2.2.2.2.1 (by rw [v.2.2.2.2.2.2, h6, hy]) (fun t a b => kFl_2 a b) (fun t a b => kFl_3 gK a b)
  rw [hy] at q
  exact hp _ (fun a ha => kFl_fr ha) q.1 q.2 v.2.2.2.2.2.2
/-- closingToFill: made or there -/
def kTF (y o : Nat) (T T1 : zTt) (FR FR1 : zFR) (AR AR1 : zAR) (F F1 : zFI) (A A1 : zAI) : Prop := (∀ h, h < kH y o ∨ kH y o + 3 < h → T1 h = T h ∧ FR1 h = FR h ∧ F1 h = F h ∧ A1 h = A h) ∧ (∀ (a : Nat) (i : Int), a < kH y o ∨ kH y o + 3 < a → a ≠ 16 ∨ i ≠ (y : Int) * 3 + o → AR1 a i = AR a i) ∧ AR1 16 ((y : Int) * 3 + o) = some (kH y o) ∧ kLay T1 FR1 (kH y o)
theorem s_X8_closingToFill {T : zTt} {FR : zFR} {AR : zAR} {FI : zFI} {AI : zAI} {Post : zPost} {B D : Nat} {N : Int → Int} {nI nL y o : Nat} (hd : dLay T FR B D) (hB : bLay T FR B) (hK : bk FI AI B N) (hW : mW N nI nL) (hy : N 0 = y) (gy : y < 39) (go : (o : Int) < N 2) (hs : kS T FR AR y o)
    (hp : ∀ (T1 : zTt) (FR1 : zFR) (AR1 : zAR) (F1 : zFI) (A1 : zAI), kTF y o T T1 FR FR1 AR AR1 FI F1 AI A1 → Post (zR (kH y o)) T1 FR1 AR1 F1 A1) : zMet M_X8_closingToFill [zR 0, zI (o : Int)] T FR AR FI AI Post := by
  have w2 := hW.2.2.1
  rcases hs with ⟨hq, hk⟩ | ⟨hq, hf⟩
  · exact s_X8_closingToFillA (K := kH y o) hd hB hK hW (by omega) go (by omega) (by rw [hy]; exact hq) (hp T FR AR FI AI ⟨fun _ _ => ⟨rfl, rfl, rfl, rfl⟩, fun _ _ _ _ => rfl, hq, hk⟩)
  · refine s_X8_closingToFillB (K := kH y o) hd hB hK hW (by omega) go (by omega) (by rw [hy]; exact hq) hf (by unfold kH zb; omega) (by unfold kH; omega) (fun T1 FR1 AR1 FI1 AI1 gr hk _ => ?_)
    rw [hy]
    exact hp T1 FR1 _ FI1 AI1 ⟨fun h hh => ⟨(gr h hh).1, (gr h hh).2.1, (gr h hh).2.2.2.1, (gr h hh).2.2.2.2⟩, fun a i ha hi => by
      have e : zsQ AR1 16 ((y : Int) * 3 + o) (some (kH y o)) a i = AR1 a i := if_neg (fun z => by omega)
      rw [e, (gr a ha).2.2.1], zsQ_eq, hk⟩
theorem bk_year {FI : zFI} {AI : zAI} {B : Nat} {N : Int → Int} {x : Int} (h : bk FI AI B N) : bk (zsF FI B 4 x) AI B (zu1 N 0 x) := by
  obtain ⟨k0, k1, k2, k3, k4, k5, k6, k7, k8⟩ := h
  have e : ∀ j : Int, j ≠ 0 → zu1 N 0 x j = N j := fun j hj => zu1_ne hj
  unfold bk
  rw [e 1 (by omega), zu1_eq, e 2 (by omega), e 3 (by omega), e 4 (by omega)]
  refine ⟨zsF_eq, (zsF_ne (by omega)).trans k1, (zsF_ne (by omega)).trans k2, (zsF_ne (by omega)).trans k3, (zsF_ne (by omega)).trans k4, fun o y a b c d => ?_, fun o y a b c d => ?_, fun i f a b c d => ?_, fun i f a b c d => ?_⟩
  · rw [e _ (by omega)]; exact k5 o y a b c d
  · rw [e _ (by omega)]; exact k6 o y a b c d
  · rw [e _ (by omega)]; exact k7 i f a b c d
  · rw [e _ (by omega)]; exact k8 i f a b c d
/-! THE STATE OF A YEAR'S END, k offices behind us: in the first loop, in the second -/
def ye1 (B D y : Nat) (N : Int → Int) (k : Nat) (T : zTt) (FR : zFR) (AR : zAR) (F : zFI) (A : zAI) : Prop := dLay T FR B D ∧ cLay T FR ∧ bLay T FR B ∧ kSA T FR AR ∧ bk F A B (zit nBr N k) ∧ (∀ o : Nat, o < k → AR 16 ((y : Int) * 3 + o) = some (kH y o) ∧ A (kH y o + 1) 6 = zit nBr N k (435 + 240 * o + 6 * y + 5)) ∧ cOK AR A N
def ye2 (B D y m : Nat) (N : Int → Int) (k : Nat) (T : zTt) (FR : zFR) (AR : zAR) (F : zFI) (A : zAI) : Prop := dLay T FR B D ∧ cLay T FR ∧ bLay T FR B ∧ kSA T FR AR ∧ bk F A B (zit nCs N k) ∧ (∀ o : Nat, o < m → AR 16 ((y : Int) * 3 + o) = some (kH y o) ∧ A (kH y o + 1) 6 = zit nCs N k (435 + 240 * o + 6 * y + 5)) ∧ (∀ o : Nat, o < k → kV A (kH y o) (zit nCs N k) o y ∧ kT A (kH y o) (zit nCs N k) o y) ∧ (∀ y' o : Nat, o < m → y' < y → AR 16 ((y' : Int) * 3 + o) = some (kH y' o) ∧ kV A (kH y' o) (zit nCs N k) o y' ∧ (k ≤ o → y' + 1 = y → kT A (kH y' o) (zit nCs N k) o y'))
