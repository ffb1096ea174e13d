theorem zv_top {G : zG} {pc : Nat} {ls : List (Option zVal)} {st : List zVal} {T : zTt} {FR : zFR} {AR : zAR} {FI : zFI} {AI : zAI} {k n : Nat} {x y : Int} (e : x = y) (h : zV G pc ls (zI y :: st) T FR AR FI AI k n) : zV G pc ls (zI x :: st) T FR AR FI AI k n := e ▸ h
set_option maxRecDepth 20000 in
theorem s_X9_isYear {T : zTt} {FR : zFR} {AR : zAR} {FI : zFI} {AI : zAI} {Post : zPost} {y : Int}  (h1 : 0 ≤ y ∧ y ≤ 39 → Post (zI 1) T FR AR FI AI) (h0 : ¬ (0 ≤ y ∧ y ≤ 39) → Post (zI 0) T FR AR FI AI) : zMet M_X9_isYear [zI y] T FR AR FI AI Post := by
  refine zMet.of [some (zI y)] rfl rfl rfl (fun G C => ?_)
  refine zv_iload_n C dX9_isYear_0 rfl ?_
  refine zv_iconst C dX9_isYear_1 rfl ?_
  refine zv_bipush C dX9_isYear_2 rfl ?_
  refine zv_cSi0_3 C dX9_isYear_4 k_X9_isIn l_X9_113 ⟨Nat.le_of_ble_eq_true rfl, Nat.le_of_ble_eq_true rfl⟩ ⟨rfl, rfl⟩ ⟨Nat.le_of_ble_eq_true rfl, Nat.le_of_ble_eq_true rfl⟩ rfl rfl ?_
  refine s_X9_isIn (fun b4 => ?_) (fun b4 => ?_)
  · refine zv_ireturn C dX9_isYear_7 rfl rfl rfl rfl ?_
    exact h1 (by omega)
  · refine zv_ireturn C dX9_isYear_7 rfl rfl rfl rfl ?_
    exact h0 (by omega)
set_option maxRecDepth 20000 in
theorem s_X9_isOffice {T : zTt} {FR : zFR} {AR : zAR} {FI : zFI} {AI : zAI} {Post : zPost} {x : Int} (hL : mLay T FR) (g : 0 ≤ AI 111 2 ∧ AI 111 2 ≤ 1000) (h1 : 0 ≤ x ∧ x ≤ AI 111 2 - 1 → Post (zI 1) T FR AR FI AI) (h0 : ¬ (0 ≤ x ∧ x ≤ AI 111 2 - 1) → Post (zI 0) T FR AR FI AI) : zMet M_X9_isOffice [zR 100, zI x] T FR AR FI AI Post := by
  refine zMet.of [some (zR 100), some (zI x)] rfl rfl rfl (fun G C => ?_)
  refine zv_iload_n C dX9_isOffice_0 rfl ?_
  refine zv_iconst C dX9_isOffice_1 rfl ?_
  refine zv_aload_n C dX9_isOffice_2 rfl rfl ?_
  refine zv_getR C dX9_isOffice_3 f_X9_74 hL.1 rfl hL.2.2.2.2.2.2.2.2.2.2.2.2.2.2.2.1 ?_
  refine zv_iconst C dX9_isOffice_6 rfl ?_
  refine zv_iaload C dX9_isOffice_7 hL.2.2.1 ⟨by omega, by omega⟩ ?_
  refine zv_iconst C dX9_isOffice_8 rfl ?_
  refine zv_isub C dX9_isOffice_9 ⟨by omega, by omega⟩ ?_
  refine zv_cSi0_3 C dX9_isOffice_10 k_X9_isIn l_X9_113 ⟨Nat.le_of_ble_eq_true rfl, Nat.le_of_ble_eq_true rfl⟩ ⟨rfl, rfl⟩ ⟨Nat.le_of_ble_eq_true rfl, Nat.le_of_ble_eq_true rfl⟩ rfl rfl ?_
  refine s_X9_isIn (fun b10 => ?_) (fun b10 => ?_)
  · refine zv_ireturn C dX9_isOffice_13 rfl rfl rfl rfl ?_
    exact h1 (by omega)
  · refine zv_ireturn C dX9_isOffice_13 rfl rfl rfl rfl ?_
    exact h0 (by omega)
set_option maxRecDepth 20000 in
theorem s_X9_isItem {T : zTt} {FR : zFR} {AR : zAR} {FI : zFI} {AI : zAI} {Post : zPost} {x : Int} (hL : mLay T FR) (g : 0 ≤ AI 111 3 ∧ AI 111 3 ≤ 1000) (h1 : 0 ≤ x ∧ x ≤ AI 111 3 - 1 → Post (zI 1) T FR AR FI AI) (h0 : ¬ (0 ≤ x ∧ x ≤ AI 111 3 - 1) → Post (zI 0) T FR AR FI AI) : zMet M_X9_isItem [zR 100, zI x] T FR AR FI AI Post := by
  refine zMet.of [some (zR 100), some (zI x)] rfl rfl rfl (fun G C => ?_)
  refine zv_iload_n C dX9_isItem_0 rfl ?_
  refine zv_iconst C dX9_isItem_1 rfl ?_
  refine zv_aload_n C dX9_isItem_2 rfl rfl ?_
  refine zv_getR C dX9_isItem_3 f_X9_74 hL.1 rfl hL.2.2.2.2.2.2.2.2.2.2.2.2.2.2.2.1 ?_
  refine zv_iconst C dX9_isItem_6 rfl ?_
  refine zv_iaload C dX9_isItem_7 hL.2.2.1 ⟨by omega, by omega⟩ ?_
  refine zv_iconst C dX9_isItem_8 rfl ?_
  refine zv_isub C dX9_isItem_9 ⟨by omega, by omega⟩ ?_
  refine zv_cSi0_3 C dX9_isItem_10 k_X9_isIn l_X9_113 ⟨Nat.le_of_ble_eq_true rfl, Nat.le_of_ble_eq_true rfl⟩ ⟨rfl, rfl⟩ ⟨Nat.le_of_ble_eq_true rfl, Nat.le_of_ble_eq_true rfl⟩ rfl rfl ?_
  refine s_X9_isIn (fun b10 => ?_) (fun b10 => ?_)
  · refine zv_ireturn C dX9_isItem_13 rfl rfl rfl rfl ?_
    exact h1 (by omega)
  · refine zv_ireturn C dX9_isItem_13 rfl rfl rfl rfl ?_
    exact h0 (by omega)
set_option maxRecDepth 20000 in
theorem s_X9_isLoss {T : zTt} {FR : zFR} {AR : zAR} {FI : zFI} {AI : zAI} {Post : zPost} {x : Int} (hL : mLay T FR) (g : 0 ≤ AI 111 4 ∧ AI 111 4 ≤ 1000) (h1 : 0 ≤ x ∧ x ≤ AI 111 4 - 1 → Post (zI 1) T FR AR FI AI) (h0 : ¬ (0 ≤ x ∧ x ≤ AI 111 4 - 1) → Post (zI 0) T FR AR FI AI) : zMet M_X9_isLoss [zR 100, zI x] T FR AR FI AI Post := by
  refine zMet.of [some (zR 100), some (zI x)] rfl rfl rfl (fun G C => ?_)
  refine zv_iload_n C dX9_isLoss_0 rfl ?_
  refine zv_iconst C dX9_isLoss_1 rfl ?_
  refine zv_aload_n C dX9_isLoss_2 rfl rfl ?_
  refine zv_getR C dX9_isLoss_3 f_X9_74 hL.1 rfl hL.2.2.2.2.2.2.2.2.2.2.2.2.2.2.2.1 ?_
  refine zv_iconst C dX9_isLoss_6 rfl ?_
  refine zv_iaload C dX9_isLoss_7 hL.2.2.1 ⟨by omega, by omega⟩ ?_
  refine zv_iconst C dX9_isLoss_8 rfl ?_
  refine zv_isub C dX9_isLoss_9 ⟨by omega, by omega⟩ ?_
  refine zv_cSi0_3 C dX9_isLoss_10 k_X9_isIn l_X9_113 ⟨Nat.le_of_ble_eq_true rfl, Nat.le_of_ble_eq_true rfl⟩ ⟨rfl, rfl⟩ ⟨Nat.le_of_ble_eq_true rfl, Nat.le_of_ble_eq_true rfl⟩ rfl rfl ?_
  refine s_X9_isIn (fun b10 => ?_) (fun b10 => ?_)
  · refine zv_ireturn C dX9_isLoss_13 rfl rfl rfl rfl ?_
    exact h1 (by omega)
  · refine zv_ireturn C dX9_isLoss_13 rfl rfl rfl rfl ?_
    exact h0 (by omega)
set_option maxRecDepth 20000 in
theorem s_X9_isAhead {T : zTt} {FR : zFR} {AR : zAR} {FI : zFI} {AI : zAI} {Post : zPost} {x : Int} (hL : mLay T FR) (g : 0 ≤ AI 111 0 ∧ AI 111 0 ≤ 1000) (h1 : AI 111 0 + 1 ≤ x ∧ x ≤ 39 → Post (zI 1) T FR AR FI AI) (h0 : ¬ (AI 111 0 + 1 ≤ x ∧ x ≤ 39) → Post (zI 0) T FR AR FI AI) : zMet M_X9_isAhead [zR 100, zI x] T FR AR FI AI Post := by
  refine zMet.of [some (zR 100), some (zI x)] rfl rfl rfl (fun G C => ?_)
  refine zv_iload_n C dX9_isAhead_0 rfl ?_
  refine zv_aload_n C dX9_isAhead_1 rfl rfl ?_
  refine zv_getR C dX9_isAhead_2 f_X9_74 hL.1 rfl hL.2.2.2.2.2.2.2.2.2.2.2.2.2.2.2.1 ?_
  refine zv_iconst C dX9_isAhead_5 rfl ?_
  refine zv_iaload C dX9_isAhead_6 hL.2.2.1 ⟨by omega, by omega⟩ ?_
  refine zv_iconst C dX9_isAhead_7 rfl ?_
  refine zv_iadd C dX9_isAhead_8 ⟨by omega, by omega⟩ ?_
  refine zv_bipush C dX9_isAhead_9 rfl ?_
  refine zv_cSi0_3 C dX9_isAhead_11 k_X9_isIn l_X9_113 ⟨Nat.le_of_ble_eq_true rfl, Nat.le_of_ble_eq_true rfl⟩ ⟨rfl, rfl⟩ ⟨Nat.le_of_ble_eq_true rfl, Nat.le_of_ble_eq_true rfl⟩ rfl rfl ?_
  refine s_X9_isIn (fun b11 => ?_) (fun b11 => ?_)
  · refine zv_ireturn C dX9_isAhead_14 rfl rfl rfl rfl ?_
    exact h1 (by omega)
  · refine zv_ireturn C dX9_isAhead_14 rfl rfl rfl rfl ?_
    exact h0 (by omega)
set_option maxRecDepth 20000 in
theorem s_X9_canEnact {T : zTt} {FR : zFR} {AR : zAR} {FI : zFI} {AI : zAI} {Post : zPost} {o y r : Int} {nI nL : Nat}  (hL : mLay T FR) (hW : mW (AI 111) nI nL) (h1 : okEn (AI 111) o y r → Post (zI 1) T FR AR FI AI) (h0 : ¬ (okEn (AI 111) o y r) → Post (zI 0) T FR AR FI AI) : zMet M_X9_canEnact [zR 100, zI o, zI y, zI r] T FR AR FI AI Post := by
  refine zMet.of [some (zR 100), some (zI o), some (zI y), some (zI r)] rfl rfl rfl (fun G C => ?_)
  obtain ⟨w0, w1, w2, w3, w4, w5, w6, w7, w8, w9⟩ := id hW
  refine zv_aload_n C dX9_canEnact_0 rfl rfl ?_
  refine zv_iload_n C dX9_canEnact_1 rfl ?_
  refine zv_cVi0_1 C dX9_canEnact_2 k_X9_isOffice l_X9_244 hL.1 rfl ⟨Nat.le_of_ble_eq_true rfl, Nat.le_of_ble_eq_true rfl⟩ ⟨rfl, rfl⟩ ⟨Nat.le_of_ble_eq_true rfl, Nat.le_of_ble_eq_true rfl⟩ rfl rfl ?_
  refine s_X9_isOffice hL ⟨by omega, by omega⟩ (fun b2 => ?_) (fun b2 => ?_)
  · refine zv_if_eq C 38 dX9_canEnact_5 rfl (fun h => absurd h (by omega)) (fun _ => ?_)
    refine zv_iload_n C dX9_canEnact_8 rfl ?_
    refine zv_aload_n C dX9_canEnact_9 rfl rfl ?_
    refine zv_getR C dX9_canEnact_10 f_X9_74 hL.1 rfl hL.2.2.2.2.2.2.2.2.2.2.2.2.2.2.2.1 ?_
    refine zv_iconst C dX9_canEnact_13 rfl ?_
    refine zv_iaload C dX9_canEnact_14 hL.2.2.1 ⟨by omega, by omega⟩ ?_
    refine zv_bipush C dX9_canEnact_15 rfl ?_
    refine zv_cSi0_3 C dX9_canEnact_17 k_X9_isIn l_X9_113 ⟨Nat.le_of_ble_eq_true rfl, Nat.le_of_ble_eq_true rfl⟩ ⟨rfl, rfl⟩ ⟨Nat.le_of_ble_eq_true rfl, Nat.le_of_ble_eq_true rfl⟩ rfl rfl ?_
    refine s_X9_isIn (fun b17 => ?_) (fun b17 => ?_)
    · refine zv_if_eq C 38 dX9_canEnact_20 rfl (fun h => absurd h (by omega)) (fun _ => ?_)
      refine zv_iload_n C dX9_canEnact_23 rfl ?_
      refine zv_iconst C dX9_canEnact_24 rfl ?_
      refine zv_sipush C dX9_canEnact_25 rfl ?_
      refine zv_cSi0_3 C dX9_canEnact_28 k_X9_isIn l_X9_113 ⟨Nat.le_of_ble_eq_true rfl, Nat.le_of_ble_eq_true rfl⟩ ⟨rfl, rfl⟩ ⟨Nat.le_of_ble_eq_true rfl, Nat.le_of_ble_eq_true rfl⟩ rfl rfl ?_
      refine s_X9_isIn (fun b28 => ?_) (fun b28 => ?_)
      · refine zv_if_eq C 38 dX9_canEnact_31 rfl (fun h => absurd h (by omega)) (fun _ => ?_)
        refine zv_iconst C dX9_canEnact_34 rfl ?_
        refine zv_goto C 39 dX9_canEnact_35 rfl ?_
        refine zv_ireturn C dX9_canEnact_39 rfl rfl rfl rfl ?_
        exact h1 ⟨⟨by omega, by omega⟩, ⟨by omega, by omega⟩, by omega, by omega⟩
      · refine zv_if_eq C 38 dX9_canEnact_31 rfl (fun _ => ?_) (fun h => absurd h (by omega))
        refine zv_iconst C dX9_canEnact_38 rfl ?_
        refine zv_ireturn C dX9_canEnact_39 rfl rfl rfl rfl ?_
        exact h0 (by unfold okEn; omega)
    · refine zv_if_eq C 38 dX9_canEnact_20 rfl (fun _ => ?_) (fun h => absurd h (by omega))
      refine zv_iconst C dX9_canEnact_38 rfl ?_
      refine zv_ireturn C dX9_canEnact_39 rfl rfl rfl rfl ?_
      exact h0 (by unfold okEn; omega)
  · refine zv_if_eq C 38 dX9_canEnact_5 rfl (fun _ => ?_) (fun h => absurd h (by omega))
    refine zv_iconst C dX9_canEnact_38 rfl ?_
    refine zv_ireturn C dX9_canEnact_39 rfl rfl rfl rfl ?_
    exact h0 (by unfold okEn; omega)
set_option maxRecDepth 20000 in
theorem s_X9_doneItems {T : zTt} {FR : zFR} {AR : zAR} {FI : zFI} {AI : zAI} {Post : zPost} {nI nL : Nat}  (hL : mLay T FR) (hW : mW (AI 111) nI nL) (hp : Post (zI (mDone (AI 111) nI)) T FR AR FI AI) : zMet M_X9_doneItems [zR 100] T FR AR FI AI Post := by
  refine zMet.of [some (zR 100), none, none] rfl rfl rfl (fun G C => ?_)
  obtain ⟨w0, w1, w2, w3, w4, w5, w6, w7, w8, w9⟩ := id hW
  generalize hf : (fun i => if zOpen (mIt (AI 111)) (AI 111 0) i = 0 then (1 : Int) else 0) = f
  have hp2 : Post (zI (zS f nI)) T FR AR FI AI := by rw [← hf]; exact hp
  have fb : ∀ i : Int, f i = (if zOpen (mIt (AI 111)) (AI 111 0) i = 0 then 1 else 0) ∧ 0 ≤ f i ∧ f i ≤ 1 := fun i => by
    refine ⟨by rw [← hf], ?_⟩
    rw [← hf]; dsimp only; split <;> omega
  refine zv_iconst C dX9_doneItems_0 rfl ?_
  refine zv_istore_1 C dX9_doneItems_1 rfl rfl ?_
  refine zv_iconst C dX9_doneItems_2 rfl ?_
  refine zv_istore_2 C dX9_doneItems_3 rfl rfl ?_
  suffices lp : ∀ d j : Nat, j + d = nI → zV G 4 [some (zR 100), some (zI (zS f j)), some (zI (j : Int))] [] T FR AR FI AI 0 0 from lp nI 0 (by omega)
  intro d
  induction d with
  | zero =>
    intro j hj
    have ej : j = nI := by omega
    subst ej
    refine zv_iload_n C dX9_doneItems_4 rfl ?_
    refine zv_aload_n C dX9_doneItems_5 rfl rfl ?_
    refine zv_getR C dX9_doneItems_6 f_X9_74 hL.1 rfl hL.2.2.2.2.2.2.2.2.2.2.2.2.2.2.2.1 ?_
    refine zv_iconst C dX9_doneItems_9 rfl ?_
    refine zv_iaload C dX9_doneItems_10 hL.2.2.1 ⟨by omega, by omega⟩ ?_
    refine zv_icmp_ge C 31 dX9_doneItems_11 rfl (fun h11 => ?_) (fun h11 => absurd h11 (by omega))
    refine zv_iload_n C dX9_doneItems_31 rfl ?_
    refine zv_ireturn C dX9_doneItems_32 rfl rfl rfl rfl ?_
    exact hp2
  | succ d ih =>
    intro j hj
    have q := ih (j + 1) (by omega)
    obtain ⟨a1, a2, a3⟩ := fb j
    have s1 := zS_nn (f := f) j (fun i _ _ => (fb i).2.1)
    have s2 := zS_ub (f := f) (c := 1) j (fun i _ _ => (fb i).2.2)
    have wj := w8 j (by omega) (by omega)
    refine zv_iload_n C dX9_doneItems_4 rfl ?_
    refine zv_aload_n C dX9_doneItems_5 rfl rfl ?_
    refine zv_getR C dX9_doneItems_6 f_X9_74 hL.1 rfl hL.2.2.2.2.2.2.2.2.2.2.2.2.2.2.2.1 ?_
    refine zv_iconst C dX9_doneItems_9 rfl ?_
    refine zv_iaload C dX9_doneItems_10 hL.2.2.1 ⟨by omega, by omega⟩ ?_
    refine zv_icmp_ge C 31 dX9_doneItems_11 rfl (fun h11 => absurd h11 (by omega)) (fun h11 => ?_)
    refine zv_aload_n C dX9_doneItems_14 rfl rfl ?_
    refine zv_iload_n C dX9_doneItems_15 rfl ?_
    refine zv_cVi0_1 C dX9_doneItems_16 k_X9_openOf l_X9_216 hL.1 rfl ⟨Nat.le_of_ble_eq_true rfl, Nat.le_of_ble_eq_true rfl⟩ ⟨rfl, rfl⟩ ⟨Nat.le_of_ble_eq_true rfl, Nat.le_of_ble_eq_true rfl⟩ rfl rfl ?_
    refine s_X9_openOf hL (by omega) (by omega) (by assumption) (by omega) (by omega) ?_
    refine zv_if_ne C 25 dX9_doneItems_19 rfl (fun h19 => ?_) (fun h19 => ?_)
    · refine zv_iinc_2 C dX9_doneItems_25 rfl rfl ⟨by omega, by omega⟩ ?_
      refine zv_goto C 4 dX9_doneItems_28 rfl ?_
      first | (rw [if_pos (by omega)] at a1; rw [zS_t a1] at q; exact q) | (rw [if_neg (by omega)] at a1; rw [zS_f a1] at q; exact q)
    · refine zv_iinc_1 C dX9_doneItems_22 rfl rfl ⟨by omega, by omega⟩ ?_
      refine zv_iinc_2 C dX9_doneItems_25 rfl rfl ⟨by omega, by omega⟩ ?_
      refine zv_goto C 4 dX9_doneItems_28 rfl ?_
      first | (rw [if_pos (by omega)] at a1; rw [zS_t a1] at q; exact q) | (rw [if_neg (by omega)] at a1; rw [zS_f a1] at q; exact q)

set_option maxRecDepth 20000 in
theorem s_X9_now {T : zTt} {FR : zFR} {AR : zAR} {FI : zFI} {AI : zAI} {Post : zPost} {what : Int} {nI nL : Nat}  (hL : mLay T FR) (hW : mW (AI 111) nI nL) (hp : Post (zI (aNow (AI 111) nI (FI 100 14) (FI 100 2) what)) T FR AR (zsF FI 100 0 0) AI) : zMet M_X9_now [zR 100, zI what] T FR AR FI AI Post := by
  refine zMet.of [some (zR 100), some (zI what)] rfl rfl rfl (fun G C => ?_)
  obtain ⟨w0, w1, w2, w3, w4, w5, w6, w7, w8, w9⟩ := id hW
  refine zv_aload_n C dX9_now_0 rfl rfl ?_
  refine zv_iconst C dX9_now_1 rfl ?_
  refine zv_putI C dX9_now_2 f_X9_1 hL.1 rfl ?_
  refine zv_iload_n C dX9_now_5 rfl ?_
  refine zv_iconst C dX9_now_6 rfl ?_
  refine zv_iconst C dX9_now_7 rfl ?_
  refine zv_cSi0_3 C dX9_now_8 k_X9_isIn l_X9_113 ⟨Nat.le_of_ble_eq_true rfl, Nat.le_of_ble_eq_true rfl⟩ ⟨rfl, rfl⟩ ⟨Nat.le_of_ble_eq_true rfl, Nat.le_of_ble_eq_true rfl⟩ rfl rfl ?_
  refine s_X9_isIn (fun b8 => ?_) (fun b8 => ?_)
  · refine zv_if_eq C 21 dX9_now_11 rfl (fun h => absurd h (by omega)) (fun _ => ?_)
    refine zv_aload_n C dX9_now_14 rfl rfl ?_
    refine zv_getR C dX9_now_15 f_X9_74 hL.1 rfl hL.2.2.2.2.2.2.2.2.2.2.2.2.2.2.2.1 ?_
    refine zv_iload_n C dX9_now_18 rfl ?_
    refine zv_iaload C dX9_now_19 hL.2.2.1 ⟨by omega, by omega⟩ ?_
    refine zv_ireturn C dX9_now_20 rfl rfl rfl rfl ?_
    refine zpost ?_ hp
    unfold aNow
    repeat (first | rw [if_pos (by omega)] | rw [if_neg (by omega)])
    all_goals (exfalso; omega)
  · refine zv_if_eq C 21 dX9_now_11 rfl (fun _ => ?_) (fun h => absurd h (by omega))
    refine zv_iload_n C dX9_now_21 rfl ?_
    refine zv_iconst C dX9_now_22 rfl ?_
    refine zv_icmp_ne C 33 dX9_now_23 rfl (fun h23 => ?_) (fun h23 => ?_)
    · refine zv_iload_n C dX9_now_33 rfl ?_
      refine zv_bipush C dX9_now_34 rfl ?_
      refine zv_icmp_ne C 46 dX9_now_36 rfl (fun h36 => ?_) (fun h36 => ?_)
      · refine zv_iload_n C dX9_now_46 rfl ?_
        refine zv_bipush C dX9_now_47 rfl ?_
        refine zv_icmp_ne C 59 dX9_now_49 rfl (fun h49 => ?_) (fun h49 => ?_)
        · refine zv_iconst C dX9_now_59 rfl ?_
          refine zv_ireturn C dX9_now_60 rfl rfl rfl rfl ?_
          refine zpost ?_ hp
          unfold aNow
          repeat (first | rw [if_pos (by omega)] | rw [if_neg (by omega)])
          all_goals (exfalso; omega)
        · refine zv_aload_n C dX9_now_52 rfl rfl ?_
          refine zv_getI C dX9_now_53 f_X9_11 hL.1 rfl ?_
          try simp (disch := omega) only [zsF_eq, zsF_ne]
          refine zv_goto C 60 dX9_now_56 rfl ?_
          refine zv_ireturn C dX9_now_60 rfl rfl rfl rfl ?_
          refine zpost ?_ hp
          unfold aNow
          repeat (first | rw [if_pos (by omega)] | rw [if_neg (by omega)])
          all_goals (exfalso; omega)
      · refine zv_aload_n C dX9_now_39 rfl rfl ?_
        refine zv_getI C dX9_now_40 f_X9_171 hL.1 rfl ?_
        try simp (disch := omega) only [zsF_eq, zsF_ne]
        refine zv_goto C 60 dX9_now_43 rfl ?_
        refine zv_ireturn C dX9_now_60 rfl rfl rfl rfl ?_
        refine zpost ?_ hp
        unfold aNow
        repeat (first | rw [if_pos (by omega)] | rw [if_neg (by omega)])
        all_goals (exfalso; omega)
    · refine zv_aload_n C dX9_now_26 rfl rfl ?_
      refine zv_cVi0_0 C dX9_now_27 k_X9_doneItems l_X9_232 hL.1 rfl ⟨Nat.le_of_ble_eq_true rfl, Nat.le_of_ble_eq_true rfl⟩ ⟨rfl, rfl⟩ ⟨Nat.le_of_ble_eq_true rfl, Nat.le_of_ble_eq_true rfl⟩ rfl rfl ?_
      refine s_X9_doneItems hL hW ?_
      refine zv_goto C 60 dX9_now_30 rfl ?_
      refine zv_ireturn C dX9_now_60 rfl rfl rfl rfl ?_
      refine zpost ?_ hp
      unfold aNow
      repeat (first | rw [if_pos (by omega)] | rw [if_neg (by omega)])
      all_goals (exfalso; omega)
set_option maxRecDepth 20000 in
theorem s_X9_item {T : zTt} {FR : zFR} {AR : zAR} {FI : zFI} {AI : zAI} {Post : zPost} {i what : Int} {nI nL : Nat}  (hL : mLay T FR) (hW : mW (AI 111) nI nL) (h0 : ¬ okItem (AI 111) i what → Post (zI 0) T FR AR (zsF FI 100 0 1) AI) (h1 : okItem (AI 111) i what → Post (zI (aItem (AI 111) i what)) T FR AR (zsF FI 100 0 0) AI) : zMet M_X9_item [zR 100, zI i, zI what] T FR AR FI AI Post := by
  refine zMet.of [some (zR 100), some (zI i), some (zI what)] rfl rfl rfl (fun G C => ?_)
  obtain ⟨w0, w1, w2, w3, w4, w5, w6, w7, w8, w9⟩ := id hW
  have wi : ∀ j : Int, 0 ≤ j ∧ j ≤ AI 111 3 - 1 → wI (mIt (AI 111)) j := fun j hj => w8 j (by omega) (by omega)
  refine zv_aload_n C dX9_item_0 rfl rfl ?_
  refine zv_iconst C dX9_item_1 rfl ?_
  refine zv_putI C dX9_item_2 f_X9_1 hL.1 rfl ?_
  refine zv_aload_n C dX9_item_5 rfl rfl ?_
  refine zv_iload_n C dX9_item_6 rfl ?_
  refine zv_cVi0_1 C dX9_item_7 k_X9_isItem l_X9_235 hL.1 rfl ⟨Nat.le_of_ble_eq_true rfl, Nat.le_of_ble_eq_true rfl⟩ ⟨rfl, rfl⟩ ⟨Nat.le_of_ble_eq_true rfl, Nat.le_of_ble_eq_true rfl⟩ rfl rfl ?_
  refine s_X9_isItem hL ⟨by omega, by omega⟩ (fun b7 => ?_) (fun b7 => ?_)
  · refine zv_if_eq C 34 dX9_item_10 rfl (fun h => absurd h (by omega)) (fun _ => ?_)
    refine zv_iload_n C dX9_item_13 rfl ?_
    refine zv_iconst C dX9_item_14 rfl ?_
    refine zv_iconst C dX9_item_15 rfl ?_
    refine zv_cSi0_3 C dX9_item_16 k_X9_isIn l_X9_113 ⟨Nat.le_of_ble_eq_true rfl, Nat.le_of_ble_eq_true rfl⟩ ⟨rfl, rfl⟩ ⟨Nat.le_of_ble_eq_true rfl, Nat.le_of_ble_eq_true rfl⟩ rfl rfl ?_
    refine s_X9_isIn (fun b16 => ?_) (fun b16 => ?_)
    · refine zv_if_ne C 39 dX9_item_19 rfl (fun _ => ?_) (fun h => absurd h (by omega))
      refine zv_iload_n C dX9_item_39 rfl ?_
      refine zv_iconst C dX9_item_40 rfl ?_
      refine zv_icmp_ge C 53 dX9_item_41 rfl (fun h41 => ?_) (fun h41 => ?_)
      · refine zv_iload_n C dX9_item_53 rfl ?_
        refine zv_iconst C dX9_item_54 rfl ?_
        refine zv_icmp_ne C 66 dX9_item_55 rfl (fun h55 => ?_) (fun h55 => ?_)
        · refine zv_aload_n C dX9_item_66 rfl rfl ?_
          refine zv_iload_n C dX9_item_67 rfl ?_
          refine zv_iload_n C dX9_item_68 rfl ?_
          refine zv_bipush C dX9_item_69 rfl ?_
          refine zv_isub C dX9_item_71 ⟨by omega, by omega⟩ ?_
          refine zv_cVi0_2 C dX9_item_72 k_X9_part l_X9_186 hL.1 rfl ⟨Nat.le_of_ble_eq_true rfl, Nat.le_of_ble_eq_true rfl⟩ ⟨rfl, rfl⟩ ⟨Nat.le_of_ble_eq_true rfl, Nat.le_of_ble_eq_true rfl⟩ rfl rfl ?_
          refine s_X9_part hL (by omega) (by omega) (wi i (by omega)) (by omega) (by omega) ?_
          refine zv_ireturn C dX9_item_75 rfl rfl rfl rfl ?_
          refine zpost ?_ (h1 (by unfold okItem; omega))
          unfold aItem
          repeat (first | rw [if_pos (by omega)] | rw [if_neg (by omega)])
          all_goals (exfalso; omega)
        · refine zv_aload_n C dX9_item_58 rfl rfl ?_
          refine zv_iload_n C dX9_item_59 rfl ?_
          refine zv_cVi0_1 C dX9_item_60 k_X9_openOf l_X9_216 hL.1 rfl ⟨Nat.le_of_ble_eq_true rfl, Nat.le_of_ble_eq_true rfl⟩ ⟨rfl, rfl⟩ ⟨Nat.le_of_ble_eq_true rfl, Nat.le_of_ble_eq_true rfl⟩ rfl rfl ?_
          refine s_X9_openOf hL (by omega) (by omega) (wi i (by omega)) (by omega) (by omega) ?_
          refine zv_goto C 75 dX9_item_63 rfl ?_
          refine zv_ireturn C dX9_item_75 rfl rfl rfl rfl ?_
          refine zpost ?_ (h1 (by unfold okItem; omega))
          unfold aItem
          repeat (first | rw [if_pos (by omega)] | rw [if_neg (by omega)])
          all_goals (exfalso; omega)
      · refine zv_aload_n C dX9_item_44 rfl rfl ?_
        refine zv_iload_n C dX9_item_45 rfl ?_
        refine zv_iload_n C dX9_item_46 rfl ?_
        refine zv_cVi0_2 C dX9_item_47 k_X9_its l_X9_179 hL.1 rfl ⟨Nat.le_of_ble_eq_true rfl, Nat.le_of_ble_eq_true rfl⟩ ⟨rfl, rfl⟩ ⟨Nat.le_of_ble_eq_true rfl, Nat.le_of_ble_eq_true rfl⟩ rfl rfl ?_
        refine s_X9_its hL (by omega) (by omega) (by omega) (by omega) ?_
        refine zv_goto C 75 dX9_item_50 rfl ?_
        refine zv_ireturn C dX9_item_75 rfl rfl rfl rfl ?_
        refine zpost ?_ (h1 (by unfold okItem; omega))
        unfold aItem
        repeat (first | rw [if_pos (by omega)] | rw [if_neg (by omega)])
        all_goals (exfalso; omega)
    · refine zv_if_ne C 39 dX9_item_19 rfl (fun h => absurd h (by omega)) (fun _ => ?_)
      refine zv_iload_n C dX9_item_22 rfl ?_
      refine zv_bipush C dX9_item_23 rfl ?_
      refine zv_sipush C dX9_item_25 rfl ?_
      refine zv_cSi0_3 C dX9_item_28 k_X9_isIn l_X9_113 ⟨Nat.le_of_ble_eq_true rfl, Nat.le_of_ble_eq_true rfl⟩ ⟨rfl, rfl⟩ ⟨Nat.le_of_ble_eq_true rfl, Nat.le_of_ble_eq_true rfl⟩ rfl rfl ?_
      refine s_X9_isIn (fun b28 => ?_) (fun b28 => ?_)
      · refine zv_if_ne C 39 dX9_item_31 rfl (fun _ => ?_) (fun h => absurd h (by omega))
        refine zv_iload_n C dX9_item_39 rfl ?_
        refine zv_iconst C dX9_item_40 rfl ?_
        refine zv_icmp_ge C 53 dX9_item_41 rfl (fun h41 => ?_) (fun h41 => ?_)
        · refine zv_iload_n C dX9_item_53 rfl ?_
          refine zv_iconst C dX9_item_54 rfl ?_
          refine zv_icmp_ne C 66 dX9_item_55 rfl (fun h55 => ?_) (fun h55 => ?_)
          · refine zv_aload_n C dX9_item_66 rfl rfl ?_
            refine zv_iload_n C dX9_item_67 rfl ?_
            refine zv_iload_n C dX9_item_68 rfl ?_
            refine zv_bipush C dX9_item_69 rfl ?_
            refine zv_isub C dX9_item_71 ⟨by omega, by omega⟩ ?_
            refine zv_cVi0_2 C dX9_item_72 k_X9_part l_X9_186 hL.1 rfl ⟨Nat.le_of_ble_eq_true rfl, Nat.le_of_ble_eq_true rfl⟩ ⟨rfl, rfl⟩ ⟨Nat.le_of_ble_eq_true rfl, Nat.le_of_ble_eq_true rfl⟩ rfl rfl ?_
            refine s_X9_part hL (by omega) (by omega) (wi i (by omega)) (by omega) (by omega) ?_
            refine zv_ireturn C dX9_item_75 rfl rfl rfl rfl ?_
            refine zpost ?_ (h1 (by unfold okItem; omega))
            unfold aItem
            repeat (first | rw [if_pos (by omega)] | rw [if_neg (by omega)])
            all_goals (exfalso; omega)
          · refine zv_aload_n C dX9_item_58 rfl rfl ?_
            refine zv_iload_n C dX9_item_59 rfl ?_
            refine zv_cVi0_1 C dX9_item_60 k_X9_openOf l_X9_216 hL.1 rfl ⟨Nat.le_of_ble_eq_true rfl, Nat.le_of_ble_eq_true rfl⟩ ⟨rfl, rfl⟩ ⟨Nat.le_of_ble_eq_true rfl, Nat.le_of_ble_eq_true rfl⟩ rfl rfl ?_
            refine s_X9_openOf hL (by omega) (by omega) (wi i (by omega)) (by omega) (by omega) ?_
            refine zv_goto C 75 dX9_item_63 rfl ?_
            refine zv_ireturn C dX9_item_75 rfl rfl rfl rfl ?_
            refine zpost ?_ (h1 (by unfold okItem; omega))
            unfold aItem
            repeat (first | rw [if_pos (by omega)] | rw [if_neg (by omega)])
            all_goals (exfalso; omega)
        · refine zv_aload_n C dX9_item_44 rfl rfl ?_
          refine zv_iload_n C dX9_item_45 rfl ?_
          refine zv_iload_n C dX9_item_46 rfl ?_
          refine zv_cVi0_2 C dX9_item_47 k_X9_its l_X9_179 hL.1 rfl ⟨Nat.le_of_ble_eq_true rfl, Nat.le_of_ble_eq_true rfl⟩ ⟨rfl, rfl⟩ ⟨Nat.le_of_ble_eq_true rfl, Nat.le_of_ble_eq_true rfl⟩ rfl rfl ?_
          refine s_X9_its hL (by omega) (by omega) (by omega) (by omega) ?_
          refine zv_goto C 75 dX9_item_50 rfl ?_
          refine zv_ireturn C dX9_item_75 rfl rfl rfl rfl ?_
          refine zpost ?_ (h1 (by unfold okItem; omega))
          unfold aItem
          repeat (first | rw [if_pos (by omega)] | rw [if_neg (by omega)])
          all_goals (exfalso; omega)
      · refine zv_if_ne C 39 dX9_item_31 rfl (fun h => absurd h (by omega)) (fun _ => ?_)
        refine zv_aload_n C dX9_item_34 rfl rfl ?_
        refine zv_cVi0_0 C dX9_item_35 k_X9_refuse l_X9_238 hL.1 rfl ⟨Nat.le_of_ble_eq_true rfl, Nat.le_of_ble_eq_true rfl⟩ ⟨rfl, rfl⟩ ⟨Nat.le_of_ble_eq_true rfl, Nat.le_of_ble_eq_true rfl⟩ rfl rfl ?_
        refine s_X9_refuse hL ?_
        refine zv_ireturn C dX9_item_38 rfl rfl rfl rfl ?_
        rw [zsF_zsF]
        exact h0 (by unfold okItem; omega)
  · refine zv_if_eq C 34 dX9_item_10 rfl (fun _ => ?_) (fun h => absurd h (by omega))
    refine zv_aload_n C dX9_item_34 rfl rfl ?_
    refine zv_cVi0_0 C dX9_item_35 k_X9_refuse l_X9_238 hL.1 rfl ⟨Nat.le_of_ble_eq_true rfl, Nat.le_of_ble_eq_true rfl⟩ ⟨rfl, rfl⟩ ⟨Nat.le_of_ble_eq_true rfl, Nat.le_of_ble_eq_true rfl⟩ rfl rfl ?_
    refine s_X9_refuse hL ?_
    refine zv_ireturn C dX9_item_38 rfl rfl rfl rfl ?_
    rw [zsF_zsF]
    exact h0 (by unfold okItem; omega)
set_option maxRecDepth 20000 in
theorem s_X9_loss {T : zTt} {FR : zFR} {AR : zAR} {FI : zFI} {AI : zAI} {Post : zPost} {i what : Int} {nI nL : Nat}  (hL : mLay T FR) (hW : mW (AI 111) nI nL) (h0 : ¬ okLoss (AI 111) i what → Post (zI 0) T FR AR (zsF FI 100 0 1) AI) (h1 : okLoss (AI 111) i what → Post (zI (mLo (AI 111) i what)) T FR AR (zsF FI 100 0 0) AI) : zMet M_X9_loss [zR 100, zI i, zI what] T FR AR FI AI Post := by
  refine zMet.of [some (zR 100), some (zI i), some (zI what)] rfl rfl rfl (fun G C => ?_)
  obtain ⟨w0, w1, w2, w3, w4, w5, w6, w7, w8, w9⟩ := id hW
  refine zv_aload_n C dX9_loss_0 rfl rfl ?_
  refine zv_iconst C dX9_loss_1 rfl ?_
  refine zv_putI C dX9_loss_2 f_X9_1 hL.1 rfl ?_
  refine zv_aload_n C dX9_loss_5 rfl rfl ?_
  refine zv_iload_n C dX9_loss_6 rfl ?_
  refine zv_cVi0_1 C dX9_loss_7 k_X9_isLoss l_X9_241 hL.1 rfl ⟨Nat.le_of_ble_eq_true rfl, Nat.le_of_ble_eq_true rfl⟩ ⟨rfl, rfl⟩ ⟨Nat.le_of_ble_eq_true rfl, Nat.le_of_ble_eq_true rfl⟩ rfl rfl ?_
  refine s_X9_isLoss hL ⟨by omega, by omega⟩ (fun b7 => ?_) (fun b7 => ?_)
  · refine zv_if_eq C 22 dX9_loss_10 rfl (fun h => absurd h (by omega)) (fun _ => ?_)
    refine zv_iload_n C dX9_loss_13 rfl ?_
    refine zv_iconst C dX9_loss_14 rfl ?_
    refine zv_iconst C dX9_loss_15 rfl ?_
    refine zv_cSi0_3 C dX9_loss_16 k_X9_isIn l_X9_113 ⟨Nat.le_of_ble_eq_true rfl, Nat.le_of_ble_eq_true rfl⟩ ⟨rfl, rfl⟩ ⟨Nat.le_of_ble_eq_true rfl, Nat.le_of_ble_eq_true rfl⟩ rfl rfl ?_
    refine s_X9_isIn (fun b16 => ?_) (fun b16 => ?_)
    · refine zv_if_ne C 27 dX9_loss_19 rfl (fun _ => ?_) (fun h => absurd h (by omega))
      refine zv_aload_n C dX9_loss_27 rfl rfl ?_
      refine zv_iload_n C dX9_loss_28 rfl ?_
      refine zv_iload_n C dX9_loss_29 rfl ?_
      refine zv_cVi0_2 C dX9_loss_30 k_X9_lost l_X9_189 hL.1 rfl ⟨Nat.le_of_ble_eq_true rfl, Nat.le_of_ble_eq_true rfl⟩ ⟨rfl, rfl⟩ ⟨Nat.le_of_ble_eq_true rfl, Nat.le_of_ble_eq_true rfl⟩ rfl rfl ?_
      refine s_X9_lost hL (by omega) (by omega) (by omega) (by omega) ?_
      refine zv_ireturn C dX9_loss_33 rfl rfl rfl rfl ?_
      exact h1 (by unfold okLoss; omega)
    · refine zv_if_ne C 27 dX9_loss_19 rfl (fun h => absurd h (by omega)) (fun _ => ?_)
      refine zv_aload_n C dX9_loss_22 rfl rfl ?_
      refine zv_cVi0_0 C dX9_loss_23 k_X9_refuse l_X9_238 hL.1 rfl ⟨Nat.le_of_ble_eq_true rfl, Nat.le_of_ble_eq_true rfl⟩ ⟨rfl, rfl⟩ ⟨Nat.le_of_ble_eq_true rfl, Nat.le_of_ble_eq_true rfl⟩ rfl rfl ?_
      refine s_X9_refuse hL ?_
      refine zv_ireturn C dX9_loss_26 rfl rfl rfl rfl ?_
      rw [zsF_zsF]
      exact h0 (by unfold okLoss; omega)
  · refine zv_if_eq C 22 dX9_loss_10 rfl (fun _ => ?_) (fun h => absurd h (by omega))
    refine zv_aload_n C dX9_loss_22 rfl rfl ?_
    refine zv_cVi0_0 C dX9_loss_23 k_X9_refuse l_X9_238 hL.1 rfl ⟨Nat.le_of_ble_eq_true rfl, Nat.le_of_ble_eq_true rfl⟩ ⟨rfl, rfl⟩ ⟨Nat.le_of_ble_eq_true rfl, Nat.le_of_ble_eq_true rfl⟩ rfl rfl ?_
    refine s_X9_refuse hL ?_
    refine zv_ireturn C dX9_loss_26 rfl rfl rfl rfl ?_
    rw [zsF_zsF]
    exact h0 (by unfold okLoss; omega)
set_option maxRecDepth 20000 in
theorem s_X9_rate {T : zTt} {FR : zFR} {AR : zAR} {FI : zFI} {AI : zAI} {Post : zPost} {o y : Int} {nI nL : Nat}  (hL : mLay T FR) (hW : mW (AI 111) nI nL) (hp : Post (zI (aRate (AI 111) o y)) T FR AR (zsF FI 100 0 0) AI) : zMet M_X9_rate [zR 100, zI o, zI y] T FR AR FI AI Post := by
  refine zMet.of [some (zR 100), some (zI o), some (zI y)] rfl rfl rfl (fun G C => ?_)
  obtain ⟨w0, w1, w2, w3, w4, w5, w6, w7, w8, w9⟩ := id hW
  refine zv_aload_n C dX9_rate_0 rfl rfl ?_
  refine zv_iconst C dX9_rate_1 rfl ?_
  refine zv_putI C dX9_rate_2 f_X9_1 hL.1 rfl ?_
  refine zv_aload_n C dX9_rate_5 rfl rfl ?_
  refine zv_iload_n C dX9_rate_6 rfl ?_
  refine zv_cVi0_1 C dX9_rate_7 k_X9_isOffice l_X9_244 hL.1 rfl ⟨Nat.le_of_ble_eq_true rfl, Nat.le_of_ble_eq_true rfl⟩ ⟨rfl, rfl⟩ ⟨Nat.le_of_ble_eq_true rfl, Nat.le_of_ble_eq_true rfl⟩ rfl rfl ?_
  refine s_X9_isOffice hL ⟨by omega, by omega⟩ (fun b7 => ?_) (fun b7 => ?_)
  · refine zv_if_eq C 29 dX9_rate_10 rfl (fun h => absurd h (by omega)) (fun _ => ?_)
    refine zv_iload_n C dX9_rate_13 rfl ?_
    refine zv_cSi0_1 C dX9_rate_14 k_X9_isYear l_X9_247 ⟨Nat.le_of_ble_eq_true rfl, Nat.le_of_ble_eq_true rfl⟩ ⟨rfl, rfl⟩ ⟨Nat.le_of_ble_eq_true rfl, Nat.le_of_ble_eq_true rfl⟩ rfl rfl ?_
    refine s_X9_isYear (fun b14 => ?_) (fun b14 => ?_)
    · refine zv_if_eq C 29 dX9_rate_17 rfl (fun h => absurd h (by omega)) (fun _ => ?_)
      refine zv_aload_n C dX9_rate_20 rfl rfl ?_
      refine zv_iload_n C dX9_rate_21 rfl ?_
      refine zv_iload_n C dX9_rate_22 rfl ?_
      refine zv_cVi0_2 C dX9_rate_23 k_X9_rateOf l_X9_207 hL.1 rfl ⟨Nat.le_of_ble_eq_true rfl, Nat.le_of_ble_eq_true rfl⟩ ⟨rfl, rfl⟩ ⟨Nat.le_of_ble_eq_true rfl, Nat.le_of_ble_eq_true rfl⟩ rfl rfl ?_
      refine s_X9_rateOf hL (by omega) (by omega) (by omega) (by omega) ?_
      refine zv_goto C 30 dX9_rate_26 rfl ?_
      refine zv_ireturn C dX9_rate_30 rfl rfl rfl rfl ?_
      refine zpost ?_ hp
      unfold aRate
      repeat (first | rw [if_pos (by omega)] | rw [if_neg (by omega)])
      all_goals (exfalso; omega)
    · refine zv_if_eq C 29 dX9_rate_17 rfl (fun _ => ?_) (fun h => absurd h (by omega))
      refine zv_iconst C dX9_rate_29 rfl ?_
      refine zv_ireturn C dX9_rate_30 rfl rfl rfl rfl ?_
      refine zpost ?_ hp
      unfold aRate
      repeat (first | rw [if_pos (by omega)] | rw [if_neg (by omega)])
      all_goals (exfalso; omega)
  · refine zv_if_eq C 29 dX9_rate_10 rfl (fun _ => ?_) (fun h => absurd h (by omega))
    refine zv_iconst C dX9_rate_29 rfl ?_
    refine zv_ireturn C dX9_rate_30 rfl rfl rfl rfl ?_
    refine zpost ?_ hp
    unfold aRate
    repeat (first | rw [if_pos (by omega)] | rw [if_neg (by omega)])
    all_goals (exfalso; omega)
set_option maxRecDepth 20000 in
theorem s_X9_covered {T : zTt} {FR : zFR} {AR : zAR} {FI : zFI} {AI : zAI} {Post : zPost} {o y what : Int} {nI nL : Nat}  (hL : mLay T FR) (hW : mW (AI 111) nI nL) (hp : ∀ A1, zFr2 AI A1 → Post (zI (aCov (AI 111) nI nL o y what)) T FR AR (zsF FI 100 0 0) A1) : zMet M_X9_covered [zR 100, zI o, zI y, zI what] T FR AR FI AI Post := by
  refine zMet.of [some (zR 100), some (zI o), some (zI y), some (zI what)] rfl rfl rfl (fun G C => ?_)
  obtain ⟨w0, w1, w2, w3, w4, w5, w6, w7, w8, w9⟩ := id hW
  refine zv_aload_n C dX9_covered_0 rfl rfl ?_
  refine zv_iconst C dX9_covered_1 rfl ?_
  refine zv_putI C dX9_covered_2 f_X9_1 hL.1 rfl ?_
  refine zv_aload_n C dX9_covered_5 rfl rfl ?_
  refine zv_iload_n C dX9_covered_6 rfl ?_
  refine zv_cVi0_1 C dX9_covered_7 k_X9_isOffice l_X9_244 hL.1 rfl ⟨Nat.le_of_ble_eq_true rfl, Nat.le_of_ble_eq_true rfl⟩ ⟨rfl, rfl⟩ ⟨Nat.le_of_ble_eq_true rfl, Nat.le_of_ble_eq_true rfl⟩ rfl rfl ?_
  refine s_X9_isOffice hL ⟨by omega, by omega⟩ (fun b7 => ?_) (fun b7 => ?_)
  · refine zv_if_eq C 30 dX9_covered_10 rfl (fun h => absurd h (by omega)) (fun _ => ?_)
    refine zv_aload_n C dX9_covered_13 rfl rfl ?_
    refine zv_iload_n C dX9_covered_14 rfl ?_
    refine zv_cVi0_1 C dX9_covered_15 k_X9_isAhead l_X9_250 hL.1 rfl ⟨Nat.le_of_ble_eq_true rfl, Nat.le_of_ble_eq_true rfl⟩ ⟨rfl, rfl⟩ ⟨Nat.le_of_ble_eq_true rfl, Nat.le_of_ble_eq_true rfl⟩ rfl rfl ?_
    refine s_X9_isAhead hL ⟨by omega, by omega⟩ (fun b15 => ?_) (fun b15 => ?_)
    · refine zv_if_eq C 30 dX9_covered_18 rfl (fun h => absurd h (by omega)) (fun _ => ?_)
      refine zv_iload_n C dX9_covered_21 rfl ?_
      refine zv_iconst C dX9_covered_22 rfl ?_
      refine zv_iconst C dX9_covered_23 rfl ?_
      refine zv_cSi0_3 C dX9_covered_24 k_X9_isIn l_X9_113 ⟨Nat.le_of_ble_eq_true rfl, Nat.le_of_ble_eq_true rfl⟩ ⟨rfl, rfl⟩ ⟨Nat.le_of_ble_eq_true rfl, Nat.le_of_ble_eq_true rfl⟩ rfl rfl ?_
      refine s_X9_isIn (fun b24 => ?_) (fun b24 => ?_)
      · refine zv_if_ne C 32 dX9_covered_27 rfl (fun _ => ?_) (fun h => absurd h (by omega))
        refine zv_aload_n C dX9_covered_32 rfl rfl ?_
        refine zv_iload_n C dX9_covered_33 rfl ?_
        refine zv_iconst C dX9_covered_34 rfl ?_
        refine zv_iconst C dX9_covered_35 rfl ?_
        refine zv_cVv0_3 C dX9_covered_36 k_X9_sweeps l_X9_219 hL.1 rfl ⟨Nat.le_of_ble_eq_true rfl, Nat.le_of_ble_eq_true rfl⟩ ⟨rfl, rfl⟩ ⟨Nat.le_of_ble_eq_true rfl, Nat.le_of_ble_eq_true rfl⟩ rfl rfl ?_
        refine s_X9_sweeps hL hW (by omega) (by omega) (by omega) (by omega) (fun A1 s hs hI => ?_)
        obtain ⟨c8, c9, c10, c11, c12, c13⟩ := hI.2.2.2.2.2 (y - (AI 111 0 + 1)).toNat (by omega)
        rw [show AI 111 0 + 1 + (((y - (AI 111 0 + 1)).toNat : Nat) : Int) = y by omega] at c8 c9 c10 c11 c12 c13
        refine zv_iload_n C dX9_covered_39 rfl ?_
        by_cases h40r : 0 ≤ what ∧ what ≤ 4
        · have h40s : what = 0 ∨ what = 1 ∨ what = 2 ∨ what = 3 ∨ what = 4 := by omega
          rcases h40s with h40e | h40e | h40e | h40e | h40e
          · refine zv_tableIn C 76 dX9_covered_40 (by omega) (by omega) (by rw [h40e]; rfl) rfl ?_
            refine zv_aload_n C dX9_covered_76 rfl rfl ?_
            refine zv_getR C dX9_covered_77 f_X9_89 hL.1 rfl hL.2.2.2.2.2.2.2.2.2.2.2.2.2.2.2.2.2.2.2.2.1 ?_
            refine zv_iload_n C dX9_covered_80 rfl ?_
            refine zv_iaload C dX9_covered_81 hL.2.2.2.2.2.2.2.1 ⟨by omega, by omega⟩ ?_
            refine zv_ireturn C dX9_covered_82 rfl rfl rfl rfl ?_
            refine zpost ?_ (hp A1 (show zFr AI A1 from hI.1).two)
            unfold aCov
            rw [if_pos ⟨by omega, by omega, by omega⟩]
            repeat (first | rw [if_pos (by omega)] | rw [if_neg (by omega)])
            first | exact c8.symm | exact c9.symm | exact c10.symm | exact c11.symm | exact c12.symm | exact c13.symm
          · refine zv_tableIn C 83 dX9_covered_40 (by omega) (by omega) (by rw [h40e]; rfl) rfl ?_
            refine zv_aload_n C dX9_covered_83 rfl rfl ?_
            refine zv_getR C dX9_covered_84 f_X9_92 hL.1 rfl hL.2.2.2.2.2.2.2.2.2.2.2.2.2.2.2.2.2.2.2.2.2.1 ?_
            refine zv_iload_n C dX9_covered_87 rfl ?_
            refine zv_iaload C dX9_covered_88 hL.2.2.2.2.2.2.2.2.1 ⟨by omega, by omega⟩ ?_
            refine zv_ireturn C dX9_covered_89 rfl rfl rfl rfl ?_
            refine zpost ?_ (hp A1 (show zFr AI A1 from hI.1).two)
            unfold aCov
            rw [if_pos ⟨by omega, by omega, by omega⟩]
            repeat (first | rw [if_pos (by omega)] | rw [if_neg (by omega)])
            first | exact c8.symm | exact c9.symm | exact c10.symm | exact c11.symm | exact c12.symm | exact c13.symm
          · refine zv_tableIn C 90 dX9_covered_40 (by omega) (by omega) (by rw [h40e]; rfl) rfl ?_
            refine zv_aload_n C dX9_covered_90 rfl rfl ?_
            refine zv_getR C dX9_covered_91 f_X9_95 hL.1 rfl hL.2.2.2.2.2.2.2.2.2.2.2.2.2.2.2.2.2.2.2.2.2.2.1 ?_
            refine zv_iload_n C dX9_covered_94 rfl ?_
            refine zv_iaload C dX9_covered_95 hL.2.2.2.2.2.2.2.2.2.1 ⟨by omega, by omega⟩ ?_
            refine zv_ireturn C dX9_covered_96 rfl rfl rfl rfl ?_
            refine zpost ?_ (hp A1 (show zFr AI A1 from hI.1).two)
            unfold aCov
            rw [if_pos ⟨by omega, by omega, by omega⟩]
            repeat (first | rw [if_pos (by omega)] | rw [if_neg (by omega)])
            first | exact c8.symm | exact c9.symm | exact c10.symm | exact c11.symm | exact c12.symm | exact c13.symm
          · refine zv_tableIn C 97 dX9_covered_40 (by omega) (by omega) (by rw [h40e]; rfl) rfl ?_
            refine zv_aload_n C dX9_covered_97 rfl rfl ?_
            refine zv_getR C dX9_covered_98 f_X9_98 hL.1 rfl hL.2.2.2.2.2.2.2.2.2.2.2.2.2.2.2.2.2.2.2.2.2.2.2.1 ?_
            refine zv_iload_n C dX9_covered_101 rfl ?_
            refine zv_iaload C dX9_covered_102 hL.2.2.2.2.2.2.2.2.2.2.1 ⟨by omega, by omega⟩ ?_
            refine zv_ireturn C dX9_covered_103 rfl rfl rfl rfl ?_
            refine zpost ?_ (hp A1 (show zFr AI A1 from hI.1).two)
            unfold aCov
            rw [if_pos ⟨by omega, by omega, by omega⟩]
            repeat (first | rw [if_pos (by omega)] | rw [if_neg (by omega)])
            first | exact c8.symm | exact c9.symm | exact c10.symm | exact c11.symm | exact c12.symm | exact c13.symm
          · refine zv_tableIn C 104 dX9_covered_40 (by omega) (by omega) (by rw [h40e]; rfl) rfl ?_
            refine zv_aload_n C dX9_covered_104 rfl rfl ?_
            refine zv_getR C dX9_covered_105 f_X9_101 hL.1 rfl hL.2.2.2.2.2.2.2.2.2.2.2.2.2.2.2.2.2.2.2.2.2.2.2.2.1 ?_
            refine zv_iload_n C dX9_covered_108 rfl ?_
            refine zv_iaload C dX9_covered_109 hL.2.2.2.2.2.2.2.2.2.2.2.1 ⟨by omega, by omega⟩ ?_
            refine zv_ireturn C dX9_covered_110 rfl rfl rfl rfl ?_
            refine zpost ?_ (hp A1 (show zFr AI A1 from hI.1).two)
            unfold aCov
            rw [if_pos ⟨by omega, by omega, by omega⟩]
            repeat (first | rw [if_pos (by omega)] | rw [if_neg (by omega)])
            first | exact c8.symm | exact c9.symm | exact c10.symm | exact c11.symm | exact c12.symm | exact c13.symm
        · refine zv_tableOut C 111 dX9_covered_40 (by omega) rfl ?_
          refine zv_aload_n C dX9_covered_111 rfl rfl ?_
          refine zv_getR C dX9_covered_112 f_X9_104 hL.1 rfl hL.2.2.2.2.2.2.2.2.2.2.2.2.2.2.2.2.2.2.2.2.2.2.2.2.2.1 ?_
          refine zv_iload_n C dX9_covered_115 rfl ?_
          refine zv_iaload C dX9_covered_116 hL.2.2.2.2.2.2.2.2.2.2.2.2.1 ⟨by omega, by omega⟩ ?_
          refine zv_ireturn C dX9_covered_117 rfl rfl rfl rfl ?_
          refine zpost ?_ (hp A1 (show zFr AI A1 from hI.1).two)
          unfold aCov
          rw [if_pos ⟨by omega, by omega, by omega⟩]
          repeat (first | rw [if_pos (by omega)] | rw [if_neg (by omega)])
          first | exact c8.symm | exact c9.symm | exact c10.symm | exact c11.symm | exact c12.symm | exact c13.symm
      · refine zv_if_ne C 32 dX9_covered_27 rfl (fun h => absurd h (by omega)) (fun _ => ?_)
        refine zv_iconst C dX9_covered_30 rfl ?_
        refine zv_ireturn C dX9_covered_31 rfl rfl rfl rfl ?_
        refine zpost ?_ (hp AI zFr2.rfl)
        unfold aCov
        rw [if_neg (by omega)]
    · refine zv_if_eq C 30 dX9_covered_18 rfl (fun _ => ?_) (fun h => absurd h (by omega))
      refine zv_iconst C dX9_covered_30 rfl ?_
      refine zv_ireturn C dX9_covered_31 rfl rfl rfl rfl ?_
      refine zpost ?_ (hp AI zFr2.rfl)
      unfold aCov
      rw [if_neg (by omega)]
  · refine zv_if_eq C 30 dX9_covered_10 rfl (fun _ => ?_) (fun h => absurd h (by omega))
    refine zv_iconst C dX9_covered_30 rfl ?_
    refine zv_ireturn C dX9_covered_31 rfl rfl rfl rfl ?_
    refine zpost ?_ (hp AI zFr2.rfl)
    unfold aCov
    rw [if_neg (by omega)]
theorem mUn_b {N : Int → Int} {nI nL : Nat} (hW : mW N nI nL) {o yr more : Int} (g0 : 0 ≤ o) (g1 : o < 3) (g2 : 0 ≤ more) (g3 : more ≤ 99999) : -150000000 ≤ mUn N nI nL o yr more ∧ mUn N nI nL o yr more ≤ 150000000 := by
  obtain ⟨w0, w1, w2, w3, w4, w5, w6, w7, w8, w9⟩ := id hW
  have ha1 := zS_nn (f := fun i => if mIt N i 0 = o ∧ mIt N i 1 = 0 then zOpen (mIt N) (N 0) i else 0) nI (fun i a b => by
    have ub := zUp_b (w8 i a b) (N 0)
    unfold zOpen; split <;> omega)
  have ha2 := zS_ub (f := fun i => if mIt N i 0 = o ∧ mIt N i 1 = 0 then zOpen (mIt N) (N 0) i else 0) (c := 99999) nI (fun i a b => by
    have ub := zUp_b (w8 i a b) (N 0)
    have su := (w8 i a b).2.2.1
    unfold zOpen; split <;> omega)
  have hb1 := zS_nn (f := fun l => if mLo N l 0 = o ∧ N 0 < mLo N l 2 then mLo N l 3 else 0) nL (fun i a b => by
    have := (w9 i a b).2.2.2
    split <;> omega)
  have hb2 := zS_ub (f := fun l => if mLo N l 0 = o ∧ N 0 < mLo N l 2 then mLo N l 3 else 0) (c := 3000000) nL (fun i a b => by
    have h1 := (w9 i a b).2.2.2
    have h2 := (w9 i a b).2.1
    split <;> omega)
  have hu : ∀ i : Int, 0 ≤ i → i < (39 - N 0).toNat → 0 ≤ mU N nI nL o yr more (N 0 + 1 + i) ∧ mU N nI nL o yr more (N 0 + 1 + i) ≤ 3199968 := fun i a b => by
    have tb := mU_b hW (yr := yr) (r := i.toNat) g0 g1 g2 g3 (by omega)
    have cb := mCov_b hW (yr := yr) (t := N 0 + 1 + i) g0 g1 g2 g3 (by omega) (by omega)
    rw [Int.toNat_of_nonneg a] at tb
    omega
  have hu1 := zS_nn _ (fun i a b => (hu i a b).1)
  have hu2 := zS_ub _ (fun i a b => (hu i a b).2)
  unfold mUn mUa mUb
  omega
set_option maxRecDepth 20000 in
theorem s_X9_balance {T : zTt} {FR : zFR} {AR : zAR} {FI : zFI} {AI : zAI} {Post : zPost} {o what : Int} {nI nL : Nat}  (hL : mLay T FR) (hW : mW (AI 111) nI nL) (hp : ∀ A1, zFr2 AI A1 → Post (zI (aBal (AI 111) nI nL o what)) T FR AR (zsF FI 100 0 0) A1) : zMet M_X9_balance [zR 100, zI o, zI what] T FR AR FI AI Post := by
  refine zMet.of [some (zR 100), some (zI o), some (zI what), none, none, none] rfl rfl rfl (fun G C => ?_)
  obtain ⟨w0, w1, w2, w3, w4, w5, w6, w7, w8, w9⟩ := id hW
  have e9 : ∀ A1, zFr2 AI A1 → A1 111 = AI 111 := fun A1 h => h 111 (by decide)
  suffices lp : o = -1 → (0 ≤ what ∧ what ≤ 4) → zV G 53 [some (zR 100), some (zI o), some (zI what), none, none, none] [] T FR AR (zsF FI 100 0 0) AI 0 0 from by
    refine zv_aload_n C dX9_balance_0 rfl rfl ?_
    refine zv_iconst C dX9_balance_1 rfl ?_
    refine zv_putI C dX9_balance_2 f_X9_1 hL.1 rfl ?_
    refine zv_iload_n C dX9_balance_5 rfl ?_
    refine zv_iconst C dX9_balance_6 rfl ?_
    refine zv_icmp_eq C 40 dX9_balance_7 rfl (fun h7 => ?_) (fun h7 => ?_)
    · refine zv_iload_n C dX9_balance_40 rfl ?_
      refine zv_iconst C dX9_balance_41 rfl ?_
      refine zv_iconst C dX9_balance_42 rfl ?_
      refine zv_cSi0_3 C dX9_balance_43 k_X9_isIn l_X9_113 ⟨Nat.le_of_ble_eq_true rfl, Nat.le_of_ble_eq_true rfl⟩ ⟨rfl, rfl⟩ ⟨Nat.le_of_ble_eq_true rfl, Nat.le_of_ble_eq_true rfl⟩ rfl rfl ?_
      refine s_X9_isIn (fun b43 => ?_) (fun b43 => ?_)
      · refine zv_if_ne C 53 dX9_balance_46 rfl (fun _ => ?_) (fun h => absurd h (by omega))
        exact lp (by omega) (by omega)
      · refine zv_if_ne C 53 dX9_balance_46 rfl (fun h => absurd h (by omega)) (fun _ => ?_)
        refine zv_ldcw (x := -100000000) C dX9_balance_49 c_X9_256 rfl ?_
        refine zv_ireturn C dX9_balance_52 rfl rfl rfl rfl ?_
        refine zpost ?_ (hp _ zFr2.rfl)
        unfold aBal
        rw [if_pos (by omega), if_neg (by omega)]
    · refine zv_aload_n C dX9_balance_10 rfl rfl ?_
      refine zv_iload_n C dX9_balance_11 rfl ?_
      refine zv_cVi0_1 C dX9_balance_12 k_X9_isOffice l_X9_244 hL.1 rfl ⟨Nat.le_of_ble_eq_true rfl, Nat.le_of_ble_eq_true rfl⟩ ⟨rfl, rfl⟩ ⟨Nat.le_of_ble_eq_true rfl, Nat.le_of_ble_eq_true rfl⟩ rfl rfl ?_
      refine s_X9_isOffice hL ⟨by omega, by omega⟩ (fun b12 => ?_) (fun b12 => ?_)
      · refine zv_if_eq C 36 dX9_balance_15 rfl (fun h => absurd h (by omega)) (fun _ => ?_)
        refine zv_iload_n C dX9_balance_18 rfl ?_
        refine zv_iconst C dX9_balance_19 rfl ?_
        refine zv_iconst C dX9_balance_20 rfl ?_
        refine zv_cSi0_3 C dX9_balance_21 k_X9_isIn l_X9_113 ⟨Nat.le_of_ble_eq_true rfl, Nat.le_of_ble_eq_true rfl⟩ ⟨rfl, rfl⟩ ⟨Nat.le_of_ble_eq_true rfl, Nat.le_of_ble_eq_true rfl⟩ rfl rfl ?_
        refine s_X9_isIn (fun b21 => ?_) (fun b21 => ?_)
        · refine zv_if_eq C 36 dX9_balance_24 rfl (fun h => absurd h (by omega)) (fun _ => ?_)
          refine zv_aload_n C dX9_balance_27 rfl rfl ?_
          refine zv_iload_n C dX9_balance_28 rfl ?_
          refine zv_iload_n C dX9_balance_29 rfl ?_
          refine zv_cVi0_2 C dX9_balance_30 k_X9_balanceOf l_X9_253 hL.1 rfl ⟨Nat.le_of_ble_eq_true rfl, Nat.le_of_ble_eq_true rfl⟩ ⟨rfl, rfl⟩ ⟨Nat.le_of_ble_eq_true rfl, Nat.le_of_ble_eq_true rfl⟩ rfl rfl ?_
          refine s_X9_balanceOf hL hW (by omega) (by omega) (fun A1 hA => ?_)
          refine zv_goto C 39 dX9_balance_33 rfl ?_
          refine zv_ireturn C dX9_balance_39 rfl rfl rfl rfl ?_
          first
          | (refine zpost ?_ (hp _ hA.two)
             unfold aBal
             rw [if_neg (by omega), if_pos ⟨by omega, by omega⟩])
          | (refine zpost ?_ (hp _ zFr2.rfl)
             unfold aBal
             rw [if_neg (by omega), if_neg (by omega)])
        · refine zv_if_eq C 36 dX9_balance_24 rfl (fun _ => ?_) (fun h => absurd h (by omega))
          refine zv_ldcw (x := -100000000) C dX9_balance_36 c_X9_256 rfl ?_
          refine zv_ireturn C dX9_balance_39 rfl rfl rfl rfl ?_
          first
          | (refine zpost ?_ (hp _ hA.two)
             unfold aBal
             rw [if_neg (by omega), if_pos ⟨by omega, by omega⟩])
          | (refine zpost ?_ (hp _ zFr2.rfl)
             unfold aBal
             rw [if_neg (by omega), if_neg (by omega)])
      · refine zv_if_eq C 36 dX9_balance_15 rfl (fun _ => ?_) (fun h => absurd h (by omega))
        refine zv_ldcw (x := -100000000) C dX9_balance_36 c_X9_256 rfl ?_
        refine zv_ireturn C dX9_balance_39 rfl rfl rfl rfl ?_
        first
        | (refine zpost ?_ (hp _ hA.two)
           unfold aBal
           rw [if_neg (by omega), if_pos ⟨by omega, by omega⟩])
        | (refine zpost ?_ (hp _ zFr2.rfl)
           unfold aBal
           rw [if_neg (by omega), if_neg (by omega)])
  intro ho hwh
  obtain ⟨no, hno⟩ : ∃ no : Nat, AI 111 2 = no := ⟨(AI 111 2).toNat, by omega⟩
  generalize hf : (fun k => gBal what (mBal (AI 111) nI nL k (if what < 3 then what else 3))) = f
  have hp2 : ∀ A1, zFr2 AI A1 → Post (zI (zS f no)) T FR AR (zsF FI 100 0 0) A1 := fun A1 h => by
    refine zpost ?_ (hp A1 h)
    unfold aBal
    rw [if_pos ho, if_pos hwh, hf, hno]
    rfl
  have mb : ∀ k : Int, 0 ≤ k → k < 3 → -600000000 ≤ mBal (AI 111) nI nL k (if what < 3 then what else 3) ∧ mBal (AI 111) nI nL k (if what < 3 then what else 3) ≤ 600000000 := fun k h0 h1 => by
    have lb := mLi_b hW h0 h1
    have ab := mAs_b hW (yr := -1) (more := 0) h0 h1 (by omega) (by omega)
    have ub := mUn_b hW (yr := -1) (more := 0) h0 h1 (by omega) (by omega)
    unfold mBal
    repeat' split
    all_goals omega
  have fb : ∀ k : Int, 0 ≤ k → k < 3 → f k = gBal what (mBal (AI 111) nI nL k (if what < 3 then what else 3)) ∧ -600000000 ≤ f k ∧ f k ≤ 600000000 := fun k h0 h1 => by
    have := mb k h0 h1
    refine ⟨by rw [← hf], ?_⟩
    rw [← hf]
    dsimp only
    generalize mBal (AI 111) nI nL k (if what < 3 then what else 3) = v9 at this ⊢
    unfold gBal
    repeat' split
    all_goals omega
  suffices lp : ∀ (d j : Nat) (a5 : Option zVal) (A1 : zAI), j + d = no → zFr2 AI A1 → zV G 58 [some (zR 100), some (zI o), some (zI what), some (zI (zS f j)), some (zI (j : Int)), a5] [] T FR AR (zsF FI 100 0 0) A1 0 0 from by
    refine zv_iconst C dX9_balance_53 rfl ?_
    refine zv_istore_3 C dX9_balance_54 rfl rfl ?_
    refine zv_iconst C dX9_balance_55 rfl ?_
    refine zv_istore_4 C dX9_balance_56 rfl rfl ?_
    exact lp no 0 none AI (by omega) zFr2.rfl
  intro d
  induction d with
  | zero =>
    intro j a5 A1 hj hA
    have e111 := e9 A1 hA
    have ej : j = no := by omega
    subst ej
    refine zv_iload C dX9_balance_58 rfl ?_
    refine zv_aload_n C dX9_balance_60 rfl rfl ?_
    refine zv_getR C dX9_balance_61 f_X9_74 hL.1 rfl hL.2.2.2.2.2.2.2.2.2.2.2.2.2.2.2.1 ?_
    refine zv_iconst C dX9_balance_64 rfl ?_
    refine zv_iaload C dX9_balance_65 hL.2.2.1 ⟨by omega, by omega⟩ ?_
    rw [e111]
    refine zv_icmp_ge C 137 dX9_balance_66 rfl (fun h66 => ?_) (fun h66 => absurd h66 (by omega))
    refine zv_iload_n C dX9_balance_137 rfl ?_
    refine zv_ireturn C dX9_balance_138 rfl rfl rfl rfl ?_
    exact hp2 A1 hA
  | succ d ih =>
    intro j a5 A1 hj hA
    have e111 := e9 A1 hA
    have q := fun a5 A2 h => ih (j + 1) a5 A2 (by omega) h
    obtain ⟨f1, f2, f3⟩ := fb j (by omega) (by omega)
    have m1 := mb j (by omega) (by omega)
    have s1 : -600000000 * (j : Int) ≤ zS f j ∧ zS f j ≤ 600000000 * (j : Int) := by
      have u1 := zS_le (f := fun _ => (-600000000 : Int)) (g := f) j (fun i a b => (fb i a (by omega)).2.1)
      have u2 := zS_ub (f := f) (c := 600000000) j (fun i a b => (fb i a (by omega)).2.2)
      rw [zS_const] at u1
      exact ⟨u1, u2⟩
    generalize hv : mBal (AI 111) nI nL j (if what < 3 then what else 3) = v at f1 m1
    suffices J : ∀ A2 : zAI, zFr2 AI A2 → zV G 85 [some (zR 100), some (zI o), some (zI what), some (zI (zS f j)), some (zI (j : Int)), a5] [zI v] T FR AR (zsF FI 100 0 0) A2 0 0 from by
      refine zv_iload C dX9_balance_58 rfl ?_
      refine zv_aload_n C dX9_balance_60 rfl rfl ?_
      refine zv_getR C dX9_balance_61 f_X9_74 hL.1 rfl hL.2.2.2.2.2.2.2.2.2.2.2.2.2.2.2.1 ?_
      refine zv_iconst C dX9_balance_64 rfl ?_
      refine zv_iaload C dX9_balance_65 hL.2.2.1 ⟨by omega, by omega⟩ ?_
      rw [e111]
      refine zv_icmp_ge C 137 dX9_balance_66 rfl (fun h66 => absurd h66 (by omega)) (fun h66 => ?_)
      refine zv_aload_n C dX9_balance_69 rfl rfl ?_
      refine zv_iload C dX9_balance_70 rfl ?_
      refine zv_iload_n C dX9_balance_72 rfl ?_
      refine zv_iconst C dX9_balance_73 rfl ?_
      refine zv_icmp_ge C 81 dX9_balance_74 rfl (fun h74 => ?_) (fun h74 => ?_)
      · refine zv_iconst C dX9_balance_81 rfl ?_
        refine zv_cVi0_2 C dX9_balance_82 k_X9_balanceOf l_X9_253 hL.1 rfl ⟨Nat.le_of_ble_eq_true rfl, Nat.le_of_ble_eq_true rfl⟩ ⟨rfl, rfl⟩ ⟨Nat.le_of_ble_eq_true rfl, Nat.le_of_ble_eq_true rfl⟩ rfl rfl ?_
        refine s_X9_balanceOf hL (by rw [e111]; exact hW) (by omega) (by omega) (fun A2 hA2 => ?_)
        rw [e111, show mBal (AI 111) nI nL j _ = v from by rw [← hv]; first | rw [if_pos (by omega)] | rw [if_neg (by omega)]]
        exact J A2 (hA.trans hA2.two)
      · refine zv_iload_n C dX9_balance_77 rfl ?_
        refine zv_goto C 82 dX9_balance_78 rfl ?_
        refine zv_cVi0_2 C dX9_balance_82 k_X9_balanceOf l_X9_253 hL.1 rfl ⟨Nat.le_of_ble_eq_true rfl, Nat.le_of_ble_eq_true rfl⟩ ⟨rfl, rfl⟩ ⟨Nat.le_of_ble_eq_true rfl, Nat.le_of_ble_eq_true rfl⟩ rfl rfl ?_
        refine s_X9_balanceOf hL (by rw [e111]; exact hW) (by omega) (by omega) (fun A2 hA2 => ?_)
        rw [e111, show mBal (AI 111) nI nL j _ = v from by rw [← hv]; first | rw [if_pos (by omega)] | rw [if_neg (by omega)]]
        exact J A2 (hA.trans hA2.two)
    intro A2 hA2
    refine zv_istore_5 C dX9_balance_85 rfl rfl ?_
    refine zv_iload_n C dX9_balance_87 rfl ?_
    refine zv_iload_n C dX9_balance_88 rfl ?_
    refine zv_iconst C dX9_balance_89 rfl ?_
    refine zv_icmp_ge C 98 dX9_balance_90 rfl (fun h90 => ?_) (fun h90 => ?_)
    · refine zv_iload_n C dX9_balance_98 rfl ?_
      refine zv_iconst C dX9_balance_99 rfl ?_
      refine zv_icmp_ne C 117 dX9_balance_100 rfl (fun h100 => ?_) (fun h100 => ?_)
      · refine zv_iload C dX9_balance_117 rfl ?_
        refine zv_if_ge C 128 dX9_balance_119 rfl (fun h119 => ?_) (fun h119 => ?_)
        · refine zv_iconst C dX9_balance_128 rfl ?_
          refine zv_top (y := f j) (by rw [f1]; unfold gBal; (repeat (first | rw [if_pos (by omega)] | rw [if_neg (by omega)]))) ?_
          refine zv_iadd C dX9_balance_129 ⟨by omega, by omega⟩ ?_
          refine zv_istore_3 C dX9_balance_130 rfl rfl ?_
          refine zv_iinc_4 C dX9_balance_131 rfl rfl ⟨by omega, by omega⟩ ?_
          refine zv_goto C 58 dX9_balance_134 rfl ?_
          exact q _ A2 hA2
        · refine zv_iload C dX9_balance_122 rfl ?_
          refine zv_ineg C dX9_balance_124 ⟨by omega, by omega⟩ ?_
          refine zv_goto C 129 dX9_balance_125 rfl ?_
          refine zv_top (y := f j) (by rw [f1]; unfold gBal; (repeat (first | rw [if_pos (by omega)] | rw [if_neg (by omega)]))) ?_
          refine zv_iadd C dX9_balance_129 ⟨by omega, by omega⟩ ?_
          refine zv_istore_3 C dX9_balance_130 rfl rfl ?_
          refine zv_iinc_4 C dX9_balance_131 rfl rfl ⟨by omega, by omega⟩ ?_
          refine zv_goto C 58 dX9_balance_134 rfl ?_
          exact q _ A2 hA2
      · refine zv_iload C dX9_balance_103 rfl ?_
        refine zv_if_le C 113 dX9_balance_105 rfl (fun h105 => ?_) (fun h105 => ?_)
        · refine zv_iconst C dX9_balance_113 rfl ?_
          refine zv_goto C 129 dX9_balance_114 rfl ?_
          refine zv_top (y := f j) (by rw [f1]; unfold gBal; (repeat (first | rw [if_pos (by omega)] | rw [if_neg (by omega)]))) ?_
          refine zv_iadd C dX9_balance_129 ⟨by omega, by omega⟩ ?_
          refine zv_istore_3 C dX9_balance_130 rfl rfl ?_
          refine zv_iinc_4 C dX9_balance_131 rfl rfl ⟨by omega, by omega⟩ ?_
          refine zv_goto C 58 dX9_balance_134 rfl ?_
          exact q _ A2 hA2
        · refine zv_iload C dX9_balance_108 rfl ?_
          refine zv_goto C 129 dX9_balance_110 rfl ?_
          refine zv_top (y := f j) (by rw [f1]; unfold gBal; (repeat (first | rw [if_pos (by omega)] | rw [if_neg (by omega)]))) ?_
          refine zv_iadd C dX9_balance_129 ⟨by omega, by omega⟩ ?_
          refine zv_istore_3 C dX9_balance_130 rfl rfl ?_
          refine zv_iinc_4 C dX9_balance_131 rfl rfl ⟨by omega, by omega⟩ ?_
          refine zv_goto C 58 dX9_balance_134 rfl ?_
          exact q _ A2 hA2
    · refine zv_iload C dX9_balance_93 rfl ?_
      refine zv_goto C 129 dX9_balance_95 rfl ?_
      refine zv_top (y := f j) (by rw [f1]; unfold gBal; (repeat (first | rw [if_pos (by omega)] | rw [if_neg (by omega)]))) ?_
      refine zv_iadd C dX9_balance_129 ⟨by omega, by omega⟩ ?_
      refine zv_istore_3 C dX9_balance_130 rfl rfl ?_
      refine zv_iinc_4 C dX9_balance_131 rfl rfl ⟨by omega, by omega⟩ ?_
      refine zv_goto C 58 dX9_balance_134 rfl ?_
      exact q _ A2 hA2

