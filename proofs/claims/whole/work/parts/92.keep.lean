/-- behind keep: the slot's book stands for N, all else stays -/
def kpR (B2 : Nat) (T T1 : zTt) (FR FR1 : zFR) (AR AR1 : zAR) (FI F1 : zFI) (AI A1 : zAI) (N : Int → Int) : Prop :=
  (∀ h, h < B2 ∨ B2 + 4 < h → T1 h = T h ∧ FR1 h = FR h ∧ A1 h = AI h) ∧ (∀ h j, h < B2 ∨ B2 + 4 < h → h ≠ 14 ∨ (j ≠ 1 ∧ j ≠ 2) → F1 h j = FI h j) ∧ AR1 15 (FI 14 1) = some B2 ∧ (∀ (a : Nat) (i : Int), a < B2 ∨ B2 + 4 < a → a ≠ 15 ∨ i ≠ FI 14 1 → AR1 a i = AR a i) ∧ bLay T1 FR1 B2 ∧ bk F1 A1 B2 N ∧ F1 14 1 = (FI 14 1 + 1) % 10 ∧ F1 14 2 = min (FI 14 2 + 1) 10
theorem s_X1_keep {T : zTt} {FR : zFR} {AR : zAR} {FI : zFI} {AI : zAI} {Post : zPost} {B B2 D : Nat} {N : Int → Int} (hd : dLay T FR B D) (hB : bLay T FR B) (hq : (AR 15 (FI 14 1) = some B2 ∧ bLay T FR B2) ∨ (AR 15 (FI 14 1) = none ∧ ∀ k, B2 ≤ k → k ≤ B2 + 4 → (T k).1 = 0)) (hz : B2 + 4 < zb) (gB2 : 17 ≤ B2)
    (g0 : 0 ≤ FI 14 1) (g1 : FI 14 1 < 10) (g2 : 0 ≤ FI 14 2) (g3 : FI 14 2 ≤ 10) (hK : bk FI AI B N) (hb : N 2 ≤ 3 ∧ N 3 ≤ 30 ∧ N 4 ≤ 10) (gd : B + 5 ≤ B2 ∨ B2 + 5 ≤ B)
    (hp : ∀ (T1 : zTt) (FR1 : zFR) (AR1 : zAR) (F1 : zFI) (A1 : zAI), kpR B2 T T1 FR FR1 AR AR1 FI F1 AI A1 N → Post (zI 0) T1 FR1 AR1 F1 A1) : zMet M_X1_keep [zR 14, zR B] T FR AR FI AI Post := by
  rcases hq with ⟨hq, hB2⟩ | ⟨hq, hf⟩
  · refine s_X1_keepA hd hB hB2 hq g0 g1 g2 g3 hK hb gd (by omega) (fun F1 A1 f1 kk => hp T FR AR _ A1 ⟨fun h hh => ⟨rfl, rfl, f1.2 h (by omega)⟩, fun h j hh hj => ?_, hq, fun _ _ _ _ => rfl, hB2, bk_setI (bk_setI kk (by omega)) (by omega), ?_, zsF_eq⟩)
    · rw [zsF_ne (by omega), zsF_ne (by omega)]
      exact f1.1 h j (by omega)
    · rw [zsF_ne (by decide), zsF_eq]
  · refine s_X1_keepB hd hB hq hf hz gB2 g0 g1 g2 g3 hK hb gd (by omega) (fun T1 FR1 AR1 FI1 AI1 gr hB2 F1 A1 f1 kk => hp T1 FR1 _ _ A1 ⟨fun h hh => ⟨(gr h hh).1, (gr h hh).2.1, (f1.2 h (by omega)).trans (gr h hh).2.2.2.2⟩, fun h j hh hj => ?_, zsQ_eq, fun a i ha hi => ?_, hB2, bk_setI (bk_setI kk (by omega)) (by omega), ?_, zsF_eq⟩)
    · rw [zsF_ne (by omega), zsF_ne (by omega), f1.1 h j (by omega), (gr h hh).2.2.2.1]
    · have e : zsQ AR1 15 (FI 14 1) (some B2) a i = AR1 a i := if_neg (fun z => by omega)
      rw [e, (gr a ha).2.2.1]
    · rw [zsF_ne (by decide), zsF_eq]
/-- the book that is in use is not touched by keep -/
theorem kpR_bk {B B2 : Nat} {T T1 : zTt} {FR FR1 : zFR} {AR AR1 : zAR} {FI F1 : zFI} {AI A1 : zAI} {N : Int → Int} (h : kpR B2 T T1 FR FR1 AR AR1 FI F1 AI A1 N) {N' : Int → Int} (k : bk FI AI B N') (gd : B + 5 ≤ B2 ∨ B2 + 5 ≤ B) (g : 14 < B) : bk F1 A1 B N' := bk_fr k (fun j _ _ => h.2.1 B j (by omega) (by omega)) (fun a _ _ => (h.1 a (by omega)).2.2)
theorem kpR_lay {B B2 : Nat} {T T1 : zTt} {FR FR1 : zFR} {AR AR1 : zAR} {FI F1 : zFI} {AI A1 : zAI} {N : Int → Int} (h : kpR B2 T T1 FR FR1 AR AR1 FI F1 AI A1 N) (k : bLay T FR B) (gd : B + 5 ≤ B2 ∨ B2 + 5 ≤ B) : bLay T1 FR1 B := bLay_gr k (fun k a b => ⟨(h.1 k (by omega)).1, (h.1 k (by omega)).2.1⟩)
theorem kpR_d {B D B2 : Nat} {T T1 : zTt} {FR FR1 : zFR} {AR AR1 : zAR} {FI F1 : zFI} {AI A1 : zAI} {N : Int → Int} (h : kpR B2 T T1 FR FR1 AR AR1 FI F1 AI A1 N) (k : dLay T FR B D) (g : 17 ≤ B2) : dLay T1 FR1 B D := dLay_gr k (fun k a => ⟨(h.1 k (by omega)).1, (h.1 k (by omega)).2.1⟩)
