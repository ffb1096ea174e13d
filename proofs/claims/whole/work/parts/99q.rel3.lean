/-! .. the tapes, a text -/
theorem lRs_fr2 {AR : zAR} {FI F1 : zFI} {AI A1 : zAI} {B : Nat} (hB : B = 20 ∨ B = 25) (h : lRs AR FI AI B) (hF : ∀ o j, o = B ∨ o = 14 ∨ (30 ≤ o ∧ o ≤ 79) ∨ (o = 100 ∧ j = 14) → F1 o j = FI o j) (h8 : F1 3 8 = F1 100 8) (hA : ∀ a, (B + 1 ≤ a ∧ a ≤ B + 4) ∨ (30 ≤ a ∧ a ≤ 79) ∨ a = 111 ∨ a = 113 ∨ 200 ≤ a → A1 a = AI a) : lRs AR F1 A1 B := by
  obtain ⟨r1, r2, r3, r4, r5, r6, r7, r8, r9⟩ := h
  have e111 : A1 111 = AI 111 := hA 111 (by omega)
  have e113 : A1 113 = AI 113 := hA 113 (by omega)
  have es : ∀ r, sRow A1 r = sRow AI r := fun r => by unfold sRow; rw [e113]
  have ei : ∀ r, sIx F1 r = sIx FI r := fun r => by unfold sIx; rw [hF 14 1 (by omega), hF 100 14 (by omega)]
  have eH : ∀ y' o' : Nat, kH y' o' = 200 + 4 * (3 * y' + o') := fun _ _ => rfl
  have hc : ∀ {N : Int → Int}, mG N → cOK AR AI N → cOK AR A1 N := fun g c => cOK_fr c g (fun _ _ _ _ => rfl) (fun y o _ _ a p q => hA a (by have := eH y o; omega))
  refine ⟨by rw [e111]; exact r1, by rw [e111]; exact bk_fr r2 (fun j _ _ => hF _ j (by omega)) (fun a p q => hA a (by omega)), by rw [e111]; exact hc r1 r3, h8, by rw [hF 14 2 (by omega), hF 100 14 (by omega)]; exact r5, by rw [hF 100 14 (by omega)]; exact r6, by rw [hF 14 1 (by omega)]; exact r7, fun r g => ?_, fun r r' g1 g2 => ?_⟩
  · rw [hF 100 14 (by omega)] at g
    obtain ⟨q1, q2, q3, q4, q5⟩ := r8 r g
    have b := sIx_b FI r
    have c := sl_b b.1 b.2
    rw [es, ei, e111]
    exact ⟨q1, bk_fr q2 (fun j _ _ => hF _ j (by omega)) (fun a p q => hA a (by omega)), q3, hc q3 q4, q5⟩
  · rw [hF 100 14 (by omega)] at g2
    rw [es, es]
    exact r9 r r' g1 g2
theorem lR_end {T : zTt} {FR : zFR} {AR : zAR} {FI : zFI} {AI : zAI} {B D : Nat} {x : Int} (h : lR T FR AR FI AI B D) (h0 : 0 ≤ x) (h1 : x ≤ FI 1 1) : lR T FR AR (zsF (zsF (zsF FI 1 1 x) 100 0 0) 100 2 x) AI B D := by
  obtain ⟨hl, ⟨t1, t2, t3, t4⟩, hs⟩ := h
  refine ⟨hl, ⟨by rw [zsF_ne (by omega), zsF_ne (by omega), zsF_eq, zsF_eq], by rw [zsF_eq]; omega, fun j p q => ?_, t4⟩, lRs_fr (by have := hl.1; omega) hs (fun o j p1 p2 p3 => by rw [zsF_ne (by omega), zsF_ne (by omega), zsF_ne (by omega)]) (fun _ _ _ _ _ _ _ => rfl)⟩
  rw [zsF_eq] at q
  exact t3 j p (by omega)
theorem lR_feed {T : zTt} {FR : zFR} {AR : zAR} {FI : zFI} {AI : zAI} {B D : Nat} {a b c d e : Int} (h : lR T FR AR FI AI B D) (h1 : FI 1 1 + 20 ≤ 640) : lR T FR AR (zsF (zsF (zsF FI 1 1 (FI 1 1 + 20)) 100 0 0) 100 2 (FI 100 2 + 20)) (zlay (zlay (zlay (zlay (zlay (zcl (zcl (zcl (zcl (zcl AI (FI 1 1) a) (FI 1 1 + 4) b) (FI 1 1 + 8) c) (FI 1 1 + 12) d) (FI 1 1 + 16) e) 101 (FI 100 2) a) 101 (FI 100 2 + 4) b) 101 (FI 100 2 + 8) c) 101 (FI 100 2 + 12) d) 101 (FI 100 2 + 16) e) B D := by
  obtain ⟨hl, ⟨t1, t2, t3, t4⟩, hs⟩ := h
  rw [t1]
  rw [t1] at h1
  generalize FI 100 2 = t at *
  have q0 : ∀ j : Int, 0 ≤ j → j < t → AI 2 j % 256 = (zcl (zcl (zcl (zcl (zcl AI t a) (t + 4) b) (t + 8) c) (t + 12) d) (t + 16) e) 101 j := fun j p q => by
    rw [zcl_ne (by omega), zcl_ne (by omega), zcl_ne (by omega), zcl_ne (by omega), zcl_ne (by omega)]
    exact t3 j p q
  generalize hCA : zcl (zcl (zcl (zcl (zcl AI t a) (t + 4) b) (t + 8) c) (t + 12) d) (t + 16) e = CA at *
  have q1 := zcl_rel (w := a) q0
  have q2 := zcl_rel (w := b) q1
  have q3 := zcl_rel (w := c) (t := t + 8) (fun j p q => q2 j p (by omega))
  have q4 := zcl_rel (w := d) (t := t + 12) (fun j p q => q3 j p (by omega))
  have q5 := zcl_rel (w := e) (t := t + 16) (fun j p q => q4 j p (by omega))
  have c0 : ∀ i : Int, 0 ≤ CA 101 i ∧ CA 101 i ≤ 255 := fun i => by
    rw [← hCA, zcl_ne (by omega), zcl_ne (by omega), zcl_ne (by omega), zcl_ne (by omega), zcl_ne (by omega)]
    exact t4 i
  refine ⟨hl, ⟨by rw [zsF_ne (by omega), zsF_ne (by omega), zsF_eq, zsF_eq], by rw [zsF_eq]; omega, fun j p q => ?_, zlay_b (zlay_b (zlay_b (zlay_b (zlay_b c0))))⟩, lRs_fr (by have := hl.1; omega) hs (fun o j p1 p2 p3 => by rw [zsF_ne (by omega), zsF_ne (by omega), zsF_ne (by omega)]) (fun x p1 p2 p3 p4 p5 p6 => ?_)⟩
  · rw [zsF_eq] at q
    have z := q5 j p (by omega)
    rw [zlay_ne (by omega), zlay_ne (by omega), zlay_ne (by omega), zlay_ne (by omega), zlay_ne (by omega), ← hCA]
    rw [hCA] at z
    rw [hCA]
    exact z
  · rw [zlay_ne p4, zlay_ne p4, zlay_ne p4, zlay_ne p4, zlay_ne p4, ← hCA, zcl_ne p2, zcl_ne p2, zcl_ne p2, zcl_ne p2, zcl_ne p2]
theorem lRl_fr {T : zTt} {FR FR1 : zFR} {AR : zAR} {B D B1 D1 : Nat} (h : lRl T FR AR B D) (hBD : (B1 = B ∧ D1 = D) ∨ (B1 = D ∧ D1 = B)) (hd : dLay T FR1 B1 D1) (hR : ∀ o j, o ≠ 3 → o ≠ 0 → FR1 o j = FR o j) : lRl T FR1 AR B1 D1 := by
  obtain ⟨l1, l2, l3, l4, l5, l6, l7, l8, l9⟩ := h
  have eR : ∀ k, k ≠ 3 → k ≠ 0 → FR1 k = FR k := fun k a b => funext (fun j => hR k j a b)
  have eH : ∀ y' o' : Nat, kH y' o' = 200 + 4 * (3 * y' + o') := fun _ _ => rfl
  have hb : ∀ K, 20 ≤ K → bLay T FR K → bLay T FR1 K := fun K g k => bLay_gr k (fun k a b => ⟨rfl, eR k (by omega) (by omega)⟩)
  refine ⟨by omega, hd, ?_, ?_, ?_, ?_, l7, fun y o g1 g2 => kS_gr (l8 y o g1 g2) (fun k a b => ⟨rfl, eR k (by have := eH y o; omega) (by have := eH y o; omega)⟩) rfl, fun s a b => ?_⟩
  · unfold cLay
    rw [eR 5 (by omega) (by omega)]
    exact l3
  · rcases hBD with ⟨e1, e2⟩ | ⟨e1, e2⟩
    · rw [e1]; exact hb B (by omega) l4
    · rw [e1]; exact hb D (by omega) l5
  · rcases hBD with ⟨e1, e2⟩ | ⟨e1, e2⟩
    · rw [e2]; exact hb D (by omega) l5
    · rw [e2]; exact hb B (by omega) l4
  · unfold mLay
    rw [eR 100 (by omega) (by omega)]
    exact l6
  · have b2 := sl_b a b
    rcases l9 s a b with ⟨z1, z2⟩ | ⟨z1, z2⟩
    · exact Or.inl ⟨z1, hb _ (by omega) z2⟩
    · exact Or.inr ⟨z1, z2⟩
theorem lR_textok {T : zTt} {FR FR1 : zFR} {AR : zAR} {FI F1 F2 : zFI} {AI A1 : zAI} {B D : Nat} {N : Int → Int} {L : Int} (h : lR T FR AR FI AI B D) (hd1 : dLay T FR1 D B) (hR : ∀ o j, o ≠ 3 → o ≠ 0 → FR1 o j = FR o j) (hA : ∀ a, a ≠ 4 → (a < D + 1 ∨ D + 4 < a) → A1 a = AI a) (f1 : F1 1 1 = 0) (f2 : F1 14 2 = 0) (f3 : F1 14 1 = FI 14 1) (kk : bk F1 A1 D N) (hT : mT L N) (hL : 2 ≤ L) (f8 : F1 3 8 = 0) (zx : zFx F1 F2) (x8 : F2 100 8 = 0) (x14 : F2 100 14 = 0) :
    lR T FR1 AR F2 (zmap (zrow A1 112 N) 111 0 1395 N) D B := by
  obtain ⟨hl, ⟨t1, t2, t3, t4⟩, hs⟩ := h
  obtain ⟨r1, r2, r3, r4, r5, r6, r7, r8, r9⟩ := id hs
  have gBD := hl.1
  have e4 : ∀ a, a ≠ 111 → a ≠ 112 → zmap (zrow A1 112 N) 111 0 1395 N a = A1 a := fun a p q => by rw [zmap_neF p, zrow_neF q]
  have eN : rEq N (zmap (zrow A1 112 N) 111 0 1395 N 111) := fun j p q => zmap_in ⟨p, q⟩
  have hG := mG_text hT hL
  refine ⟨lRl_fr hl (Or.inr ⟨rfl, rfl⟩) hd1 hR, ⟨by rw [zx.1 1 1 (by omega), f1, zx.2.2], by rw [zx.2.2]; omega, fun j p q => by rw [zx.2.2] at q; omega, fun i => ?_⟩, mG_E hG eN, ?_, fun y o g1 g2 => ?_, ?_, ?_, by rw [x14]; omega, by rw [zx.1 14 1 (by omega), f3]; exact r7, fun r g => ?_, fun r r' g1 g2 => ?_⟩
  · rw [e4 101 (by omega) (by omega), hA 101 (by omega) (by omega)]; exact t4 i
  · exact bk_E (bk_fr kk (fun j _ _ => zx.1 D j (by omega)) (fun a p q => e4 a (by omega) (by omega))) hG eN
  · rw [eN 0 (by omega) (by omega), hT.1] at g2
    omega
  · rw [zx.1 3 8 (by omega), f8, x8]
  · rw [zx.1 14 2 (by omega), f2, x14]
  · rw [x14] at g
    omega
  · rw [x14] at g2
    omega
theorem lR_textno {T : zTt} {FR FR1 : zFR} {AR : zAR} {FI F1 F2 : zFI} {AI A1 : zAI} {B D : Nat} {M : Int → Int} (h : lR T FR AR FI AI B D) (hd1 : dLay T FR1 B D) (hR : ∀ o j, o ≠ 3 → o ≠ 0 → FR1 o j = FR o j) (hF : ∀ o j, o ≠ 3 → o ≠ D → o ≠ 1 → F1 o j = FI o j) (hA : ∀ a, a ≠ 4 → (a < D + 1 ∨ D + 4 < a) → A1 a = AI a) (f1 : F1 1 1 = 0) (zx : zFx F1 F2) (x8 : F2 100 8 = F1 3 8) (x14 : F2 100 14 = F1 100 14) :
    lR T FR1 AR F2 (zrow A1 112 M) B D := by
  obtain ⟨hl, ⟨t1, t2, t3, t4⟩, hs⟩ := h
  have gBD := hl.1
  have e4 : ∀ a, a ≠ 112 → zrow A1 112 M a = A1 a := fun a q => zrow_neF q
  refine ⟨lRl_fr hl (Or.inl ⟨rfl, rfl⟩) hd1 hR, ⟨by rw [zx.1 1 1 (by omega), f1, zx.2.2], by rw [zx.2.2]; omega, fun j p q => by rw [zx.2.2] at q; omega, fun i => ?_⟩, lRs_fr2 (by omega) hs (fun o j p => ?_) ?_ (fun a p => ?_)⟩
  · rw [e4 101 (by omega), hA 101 (by omega) (by omega)]; exact t4 i
  · by_cases c : o = 100
    · subst c
      rw [show j = 14 by omega, x14]; exact hF 100 14 (by omega) (by omega) (by omega)
    · rw [zx.1 o j c]; exact hF o j (by omega) (by omega) (by omega)
  · rw [zx.1 3 8 (by omega), x8]
  · rw [e4 a (by omega)]; exact hA a (by omega) (by omega)
/-- both sides read one text: one end -/
theorem text_uni {b : Int → Int} {n : Int} {N0 N N' : Int → Int} {L L' : Nat} {p p' : Int} (h : tRun b n N0 L N p) (h' : tRun b n N0 L' N' p') :
    ((2 ≤ L ∧ tK b n p = 1) → (2 ≤ L' ∧ tK b n p' = 1) → (L : Int) = L' ∧ N = N') ∧ ((2 ≤ L ∧ tK b n p = 1) → ∀ f pl, lFault b n p' N' L' f pl → False) ∧ (∀ f pl, lFault b n p N L f pl → (2 ≤ L' ∧ tK b n p' = 1) → False) ∧ (∀ f pl f' pl', lFault b n p N L f pl → lFault b n p' N' L' f' pl' → pl = pl' ∧ f = f') := by
  have ok : ∀ {N : Int → Int} {L : Nat} {p : Int}, tRun b n N0 L N p → 2 ≤ L → tK b n p = 1 → tOut b n N0 L 0 N True := fun {N L p} r a k => ⟨L, p, r, Or.inl ⟨a, k, rfl, rfl⟩, fun _ => ⟨a, k⟩, fun _ => trivial⟩
  have no : ∀ {N : Int → Int} {L : Nat} {p f pl : Int}, tRun b n N0 L N p → lFault b n p N L f pl → tOut b n N0 (-1 - pl) f N False := fun {N L p f pl} r l => ⟨L, p, r, Or.inr ⟨pl, l, rfl⟩, fun z => z.elim, fun z => lFault_end l z.2 (by omega)⟩
  refine ⟨fun a a' => ?_, fun a f pl l => ?_, fun f pl l a => ?_, fun f pl f' pl' l l' => ?_⟩
  · have u := tOut_uni (ok h a.1 a.2) (ok h' a'.1 a'.2)
    exact ⟨u.1, u.2.2.1⟩
  · exact (tOut_uni (ok h a.1 a.2) (no h' l)).2.2.2.mp trivial
  · exact (tOut_uni (no h l) (ok h' a.1 a.2)).2.2.2.mpr trivial
  · have u := tOut_uni (no h l) (no h' l')
    exact ⟨by omega, u.2.1⟩
