/-! WHAT EACH CALL MAKES OF THE TWO SIDES -/
theorem cOK_c {AR : zAR} {A : zAI} {N N1 : Int → Int} (h : cOK AR A N) (g : mG N) (h0 : N1 0 = N 0) (h2 : N1 2 = N 2) (hN : ∀ j : Int, 435 ≤ j → j < 1395 → N1 j = N j) : cOK AR A N1 := fun y o g1 g2 => by
  have b := mG_b g
  rw [h2] at g1
  rw [h0] at g2
  have q := h y o g1 g2
  refine ⟨q.1, kV_c q.2.1 rfl (fun f c d => hN _ (by omega) (by omega)), fun d => ?_⟩
  rw [h0] at d
  exact kT_c (q.2.2 d) ⟨rfl, rfl⟩ (fun t c d _ => ⟨hN _ (by omega) (by omega), hN _ (by omega) (by omega)⟩)
theorem lR_act {T T1 : zTt} {FR FR1 : zFR} {AR AR1 : zAR} {FI F1 F2 : zFI} {AI A1 A2 : zAI} {B D : Nat} {N1 S : Int → Int} {q : Int} (h : lR T FR AR FI AI B D) (kp : kpR (sl (FI 14 1)) T T1 FR FR1 AR AR1 FI F1 AI A1 (AI 111)) (f2 : bFr B F1 F2 A1 A2) (kk : bk F2 A2 B N1) (hS : zSnp (A2 113) (A2 111) (F2 100 14) S q) (hG1 : mG N1) (h0 : N1 0 = AI 111 0) (h2 : N1 2 = AI 111 2) (hN : ∀ j : Int, 435 ≤ j → j < 1395 → N1 j = AI 111 j) :
    lR T1 FR1 AR1 (zsF (zsF F2 100 0 0) 100 14 (q + 1)) (zrow (zrow A2 113 S) 111 N1) B D := by
  obtain ⟨hl, ht, hs⟩ := id h
  obtain ⟨r1, r2, r3, r4, r5, r6, r7, r8, r9⟩ := id hs
  have gBD := hl.1
  have xs := sl_b r7.1 r7.2
  have eH : ∀ y' o' : Nat, kH y' o' = 200 + 4 * (3 * y' + o') := fun _ _ => rfl
  have eA : ∀ a, a < sl (FI 14 1) ∨ sl (FI 14 1) + 4 < a → a < B + 1 ∨ B + 4 < a → A2 a = AI a := fun a p q => (f2.2 a q).trans (kp.1 a p).2.2
  have eF : ∀ o j, o ≠ B → o < sl (FI 14 1) ∨ sl (FI 14 1) + 4 < o → o ≠ 14 ∨ (j ≠ 1 ∧ j ≠ 2) → F2 o j = FI o j := fun o j p q r => (f2.1 o j p).trans (kp.2.1 o j q r)
  have e3 : ∀ o j, o ≠ 100 ∨ (j ≠ 0 ∧ j ≠ 14) → zsF (zsF F2 100 0 0) 100 14 (q + 1) o j = F2 o j := fun o j p => by rw [zsF_ne (by omega), zsF_ne (by omega)]
  have e4 : ∀ a, a ≠ 111 → a ≠ 113 → zrow (zrow A2 113 S) 111 N1 a = A2 a := fun a p q => by rw [zrow_neF p, zrow_neF q]
  refine ⟨lRl_keep hl r7.1 r7.2 kp, ?_, ?_⟩
  · unfold lRt
    rw [e3 1 1 (by omega), e3 100 2 (by omega), e4 2 (by omega) (by omega), e4 101 (by omega) (by omega), eF 1 1 (by omega) (by omega) (by omega), eF 100 2 (by omega) (by omega) (by omega), eA 2 (by omega) (by omega), eA 101 (by omega) (by omega)]
    exact ht
  · refine lRs_push (q' := q) (N1 := N1) (by omega) hs (fun o j p0 p1 p2 p3 p4 p5 => ?_) ?_ ?_ zsF_eq (fun a p => ?_) ?_ zrow_eqF hG1 ?_ ?_ (by omega) ?_ kp.2.2.1 (fun s p => kp.2.2.2.1 15 s (by omega) (Or.inr p)) (fun y o p1 p2 => kp.2.2.2.1 16 _ (by omega) (Or.inl (by omega)))
    · rw [e3 o j (by omega)]; exact eF o j p1 p3 (by omega)
    · rw [e3 14 1 (by omega), f2.1 14 1 (by omega)]; exact kp.2.2.2.2.2.2.1
    · rw [e3 14 2 (by omega), f2.1 14 2 (by omega)]; exact kp.2.2.2.2.2.2.2
    · rw [e4 a (by omega) (by omega)]; exact eA a (by omega) (by omega)
    · rw [zrow_neF (by omega), zrow_eqF]
      rw [eA 113 (by omega) (by omega), eA 111 (by omega) (by omega), eF 100 14 (by omega) (by omega) (by omega)] at hS
      exact hS
    · exact bk_setI (bk_setI (bk_setA (bk_setA kk (by omega)) (by omega)) (by omega)) (by omega)
    · refine cOK_c (cOK_fr r3 r1 (fun y o p1 p2 => kp.2.2.2.1 16 _ (by omega) (Or.inl (by omega))) (fun y o p1 p2 a p3 p4 => ?_)) r1 h0 h2 hN
      have := eH y o
      rw [e4 a (by omega) (by omega)]; exact eA a (by omega) (by omega)
    · have k2 : bk F2 A2 (sl (FI 14 1)) (AI 111) := bk_fr kp.2.2.2.2.2.1 (fun j _ _ => f2.1 _ j (by omega)) (fun a p q => f2.2 a (by omega))
      exact bk_setI (bk_setI (bk_setA (bk_setA k2 (by omega)) (by omega)) (by omega)) (by omega)
theorem lR_year {T T1 T2 : zTt} {FR FR1 FR2 : zFR} {AR AR1 AR2 : zAR} {FI F1 F2 : zFI} {AI A1 A2 A3 : zAI} {B D : Nat} {S : Int → Int} {q : Int} (h : lR T FR AR FI AI B D) (kp : kpR (sl (FI 14 1)) T T1 FR FR1 AR AR1 FI F1 AI A1 (AI 111)) (yr : yR B (AI 111 0).toNat T1 T2 FR1 FR2 AR1 AR2 F1 F2 A1 A2) (hd2 : dLay T2 FR2 B D) (hc2 : cLay T2 FR2) (hB2 : bLay T2 FR2 B) (hs2 : kSA T2 FR2 AR2) (kk : bk F2 A2 B (nYear (AI 111))) (ck : cOK AR2 A2 (nYear (AI 111))) (hy : AI 111 0 < 39) (hS : zSnp (A2 113) (A2 111) (F2 100 14) S q) (fr : zFr (zrow A2 113 S) A3) :
    lR T2 FR2 AR2 (zsF (zsF F2 100 0 0) 100 14 (q + 1)) (zrow A3 111 (nYear (AI 111))) B D := by
  obtain ⟨hl, ht, hs⟩ := id h
  obtain ⟨r1, r2, r3, r4, r5, r6, r7, r8, r9⟩ := id hs
  have gBD := hl.1
  have b0 := mG_b r1
  have xs := sl_b r7.1 r7.2
  have eH : ∀ y' o' : Nat, kH y' o' = 200 + 4 * (3 * y' + o') := fun _ _ => rfl
  have hl1 := lRl_keep hl r7.1 r7.2 kp
  obtain ⟨l1, l2, l3, l4, l5, l6, l7, l8, l9⟩ := hl1
  have gT : ∀ k, k < 200 → T2 k = T1 k ∧ FR2 k = FR1 k := fun k a => yr.1 k (by omega)
  have eA : ∀ a, a < 200 + 12 * (AI 111 0).toNat ∨ 212 + 12 * (AI 111 0).toNat ≤ a → a < 6 ∨ 13 < a → a < sl (FI 14 1) ∨ sl (FI 14 1) + 4 < a → a < B + 1 ∨ B + 4 < a → A2 a = AI a := fun a p1 p2 p q => (yr.2.2.1 a p1 p2 q).trans (kp.1 a p).2.2
  have eF : ∀ o j, o < 200 → o ≠ B → o ≠ 5 → o < sl (FI 14 1) ∨ sl (FI 14 1) + 4 < o → o ≠ 14 ∨ (j ≠ 1 ∧ j ≠ 2) → F2 o j = FI o j := fun o j p0 p p5 q r => (yr.2.1 o j (by omega) p p5).trans (kp.2.1 o j q r)
  have e3 : ∀ o j, o ≠ 100 ∨ (j ≠ 0 ∧ j ≠ 14) → zsF (zsF F2 100 0 0) 100 14 (q + 1) o j = F2 o j := fun o j p => by rw [zsF_ne (by omega), zsF_ne (by omega)]
  have e4 : ∀ a, a ≠ 111 → a ≠ 113 → a < 116 ∨ 123 < a → zrow A3 111 (nYear (AI 111)) a = A2 a := fun a p q r => by rw [zrow_neF p, fr a r, zrow_neF q]
  have hG1 := mG_year r1 hy
  have e0 : nYear (AI 111) 0 = AI 111 0 + 1 := by unfold nYear; rw [zu1_eq]
  refine ⟨⟨l1, hd2, hc2, hB2, bLay_gr l5 (fun k a b => gT k (by omega)), ?_, by rw [(gT 90 (by omega)).1]; exact l7, hs2, fun s a b => ?_⟩, ?_, ?_⟩
  · unfold mLay
    rw [(gT 100 (by omega)).1, (gT 101 (by omega)).1, (gT 111 (by omega)).1, (gT 112 (by omega)).1, (gT 113 (by omega)).1, (gT 116 (by omega)).1, (gT 117 (by omega)).1, (gT 118 (by omega)).1, (gT 119 (by omega)).1, (gT 120 (by omega)).1, (gT 121 (by omega)).1, (gT 122 (by omega)).1, (gT 123 (by omega)).1, (gT 124 (by omega)).1, (gT 100 (by omega)).2]
    exact l6
  · have b2 := sl_b a b
    have e15 : AR2 15 s = AR1 15 s := yr.2.2.2 15 s (by omega) (by omega)
    rcases l9 s a b with ⟨z1, z2⟩ | ⟨z1, z2⟩
    · exact Or.inl ⟨e15.trans z1, bLay_gr z2 (fun k p q => gT k (by omega))⟩
    · exact Or.inr ⟨e15.trans z1, fun k p q => by rw [(gT k (by omega)).1]; exact z2 k p q⟩
  · unfold lRt
    rw [e3 1 1 (by omega), e3 100 2 (by omega), e4 2 (by omega) (by omega) (by omega), e4 101 (by omega) (by omega) (by omega), eF 1 1 (by omega) (by omega) (by omega) (by omega) (by omega), eF 100 2 (by omega) (by omega) (by omega) (by omega) (by omega), eA 2 (by omega) (by omega) (by omega) (by omega), eA 101 (by omega) (by omega) (by omega) (by omega)]
    exact ht
  · refine lRs_push (q' := q) (N1 := nYear (AI 111)) (by omega) hs (fun o j p0 p1 p2 p3 p4 p5 => ?_) ?_ ?_ zsF_eq (fun a p => ?_) ?_ zrow_eqF hG1 ?_ ?_ (by omega) ?_ ?_ (fun s p => ?_) (fun y o p1 p2 => ?_)
    · rw [e3 o j (by omega)]; exact eF o j p0 p1 p2 p3 (by omega)
    · rw [e3 14 1 (by omega), yr.2.1 14 1 (by omega) (by omega) (by omega)]; exact kp.2.2.2.2.2.2.1
    · rw [e3 14 2 (by omega), yr.2.1 14 2 (by omega) (by omega) (by omega)]; exact kp.2.2.2.2.2.2.2
    · rw [e4 a (by omega) (by omega) (by omega)]; exact eA a (by omega) (by omega) (by omega) (by omega)
    · rw [zrow_neF (by omega), fr 113 (by omega), zrow_eqF]
      rw [eA 113 (by omega) (by omega) (by omega) (by omega), eA 111 (by omega) (by omega) (by omega) (by omega), eF 100 14 (by omega) (by omega) (by omega) (by omega) (by omega)] at hS
      exact hS
    · exact bk_fr kk (fun j _ _ => e3 B j (by omega)) (fun a p q => e4 a (by omega) (by omega) (by omega))
    · exact cOK_fr ck hG1 (fun _ _ _ _ => rfl) (fun y o p1 p2 a p3 p4 => by have := eH y o; exact e4 a (by omega) (by omega) (by omega))
    · have k2 : bk F2 A2 (sl (FI 14 1)) (AI 111) := bk_fr kp.2.2.2.2.2.1 (fun j _ _ => yr.2.1 _ j (by omega) (by omega) (by omega)) (fun a p q => yr.2.2.1 a (by omega) (by omega) (by omega))
      exact bk_fr k2 (fun j _ _ => e3 _ j (by omega)) (fun a p q => e4 a (by omega) (by omega) (by omega))
    · rw [yr.2.2.2 15 _ (by omega) (by omega)]; exact kp.2.2.1
    · rw [yr.2.2.2 15 s (by omega) (by omega)]; exact kp.2.2.2.1 15 s (by omega) (Or.inr p)
    · rw [yr.2.2.2 16 _ (by omega) (by omega)]; exact kp.2.2.2.1 16 _ (by omega) (Or.inl (by omega))
/-- undo -/
theorem lR_undo {T : zTt} {FR : zFR} {AR : zAR} {FI F1 : zFI} {AI A1 : zAI} {B D : Nat} (h : lR T FR AR FI AI B D) (h0 : FI 100 14 ≠ 0) (f1 : bFr B (zsF (zsF FI 14 1 ((FI 14 1 + 9) % 10)) 14 2 (FI 14 2 - 1)) F1 AI A1) (kk : bk F1 A1 B (sRow AI (FI 100 14 - 1).toNat)) :
    lR T FR AR (zsF (zsF F1 100 0 0) 100 14 (FI 100 14 - 1)) (zmap A1 111 0 1395 (fun j => A1 113 (1395 * (FI 100 14 - 1) + j))) B D := by
  obtain ⟨hl, ht, hs⟩ := id h
  obtain ⟨r1, r2, r3, r4, r5, r6, r7, r8, r9⟩ := id hs
  have gBD := hl.1
  have eH : ∀ y' o' : Nat, kH y' o' = 200 + 4 * (3 * y' + o') := fun _ _ => rfl
  have eF : ∀ o j, o ≠ B → o ≠ 14 → F1 o j = FI o j := fun o j p q => (f1.1 o j p).trans (by rw [zsF_ne (by omega), zsF_ne (by omega)])
  have e14 : F1 14 1 = (FI 14 1 + 9) % 10 ∧ F1 14 2 = FI 14 2 - 1 := ⟨(f1.1 14 1 (by omega)).trans (by rw [zsF_ne (by omega), zsF_eq]), (f1.1 14 2 (by omega)).trans zsF_eq⟩
  have e3 : ∀ o j, o ≠ 100 ∨ (j ≠ 0 ∧ j ≠ 14) → zsF (zsF F1 100 0 0) 100 14 (FI 100 14 - 1) o j = F1 o j := fun o j p => by rw [zsF_ne (by omega), zsF_ne (by omega)]
  have e4 : ∀ a, a ≠ 111 → zmap A1 111 0 1395 (fun j => A1 113 (1395 * (FI 100 14 - 1) + j)) a = A1 a := fun a p => zmap_neF p
  have e113 : A1 113 = AI 113 := f1.2 113 (by omega)
  obtain ⟨qN, hqN⟩ : ∃ qN : Nat, (qN : Int) = FI 100 14 - 1 := ⟨(FI 100 14 - 1).toNat, by omega⟩
  rw [show (FI 100 14 - 1).toNat = qN by omega] at kk
  have eN : rEq (sRow AI qN) (zmap A1 111 0 1395 (fun j => A1 113 (1395 * (FI 100 14 - 1) + j)) 111) := fun j p q => by
    rw [zmap_in ⟨p, q⟩, e113, ← hqN]
    rfl
  obtain ⟨q1, q2, q3, q4, q5⟩ := r8 qN (by omega)
  have hc : ∀ {N : Int → Int}, mG N → cOK AR AI N → cOK AR (zmap A1 111 0 1395 (fun j => A1 113 (1395 * (FI 100 14 - 1) + j))) N := fun g c => cOK_fr c g (fun _ _ _ _ => rfl) (fun y o _ _ a p q => by have := eH y o; rw [e4 a (by omega)]; exact f1.2 a (by omega))
  have es : ∀ r, sRow (zmap A1 111 0 1395 (fun j => A1 113 (1395 * (FI 100 14 - 1) + j))) r = sRow AI r := fun r => by unfold sRow; rw [e4 113 (by omega), e113]
  have ei : ∀ r, sIx (zsF (zsF F1 100 0 0) 100 14 (FI 100 14 - 1)) r = sIx FI r := fun r => by
    unfold sIx
    rw [e3 14 1 (by omega), zsF_eq, e14.1]
    omega
  refine ⟨hl, ?_, mG_E q3 eN, ?_, cOK_E (hc q3 q4) q3 eN, ?_, ?_, ?_, ?_, fun r g => ?_, fun r r' g1 g2 => ?_⟩
  · unfold lRt
    rw [e3 1 1 (by omega), e3 100 2 (by omega), e4 2 (by omega), e4 101 (by omega), eF 1 1 (by omega) (by omega), eF 100 2 (by omega) (by omega), f1.2 2 (by omega), f1.2 101 (by omega)]
    exact ht
  · exact bk_E (bk_fr kk (fun j _ _ => e3 B j (by omega)) (fun a p q => e4 a (by omega))) q3 eN
  · rw [e3 3 8 (by omega), e3 100 8 (by omega), eF 3 8 (by omega) (by omega), eF 100 8 (by omega) (by omega)]; exact r4
  · rw [e3 14 2 (by omega), zsF_eq, e14.2, r5]
  · rw [zsF_eq]; omega
  · rw [e3 14 1 (by omega), e14.1]; omega
  · rw [zsF_eq] at g
    obtain ⟨p1, p2, p3, p4, p5⟩ := r8 r (by omega)
    have b := sIx_b FI r
    have c := sl_b b.1 b.2
    rw [ei, es, eN 0 (by omega) (by omega)]
    exact ⟨p1, bk_fr p2 (fun j _ _ => by rw [e3 _ j (by omega)]; exact eF _ j (by omega) (by omega)) (fun a x y => by rw [e4 a (by omega)]; exact f1.2 a (by omega)), p3, hc p3 p4, r9 r qN (by omega) (by omega)⟩
  · rw [zsF_eq] at g2
    rw [es, es]
    exact r9 r r' g1 (by omega)
