/-- a part of the desk is made and put into its field j -/
def zDx (lo hi j X : Nat) (T T' : zTt) (FR FR' : zFR) (AR AR' : zAR) (FI FI' : zFI) (AI AI' : zAI) : Prop := (∀ h, h < lo ∨ hi < h → T' h = T h ∧ AR' h = AR h ∧ FI' h = FI h ∧ AI' h = AI h) ∧ (∀ h i, h < lo ∨ hi < h → h ≠ 0 ∨ i ≠ j → FR' h i = FR h i) ∧ FR' 0 j = some X
theorem zDx.of {lo hi j X : Nat} {T T1 : zTt} {FR FR1 : zFR} {AR AR1 : zAR} {FI FI1 : zFI} {AI AI1 : zAI} {t : Nat × Nat} (gr : zGr lo hi (zsT T lo t) T1 (zzR FR lo) FR1 (zzQ AR lo) AR1 (zzF FI lo) FI1 (zzA AI lo) AI1) (h0 : 0 < lo) (hh : lo ≤ hi) : zDx lo hi j X T T1 FR (zsR FR1 0 j (some X)) AR AR1 FI FI1 AI AI1 := by
  have q : ∀ h, h < lo ∨ hi < h → T1 h = T h ∧ FR1 h = FR h ∧ AR1 h = AR h ∧ FI1 h = FI h ∧ AI1 h = AI h := fun h a => by
    have z := gr h a
    rw [zsT_ne (by omega), zzR_neF (by omega), zzQ_neF (by omega), zzF_neF (by omega), zzA_neF (by omega)] at z
    exact z
  refine ⟨fun h a => ⟨(q h a).1, (q h a).2.2.1, (q h a).2.2.2.1, (q h a).2.2.2.2⟩, fun h i a b => ?_, zsR_eq⟩
  have e : zsR FR1 0 j (some X) h i = FR1 h i := if_neg (fun z => by omega)
  rw [e, (q h a).2.1]
/-- the reader, its tape and its book are made: two runs of handles -/
def zDy (T T' : zTt) (FR FR' : zFR) (AR AR' : zAR) (FI FI' : zFI) (AI AI' : zAI) : Prop := (∀ h, (h < 1 ∨ 4 < h) ∧ (h < 25 ∨ 29 < h) → T' h = T h ∧ AR' h = AR h ∧ FI' h = FI h ∧ AI' h = AI h) ∧ (∀ h i, (h < 1 ∨ 4 < h) ∧ (h < 25 ∨ 29 < h) → h ≠ 0 ∨ i ≠ 0 → FR' h i = FR h i) ∧ FR' 0 0 = some 3
theorem zDy.of {T T1 : zTt} {FR FR1 : zFR} {AR AR1 : zAR} {FI FI1 : zFI} {AI AI1 : zAI} {t : Nat × Nat} (gr : ∀ h, (h < 1 ∨ 4 < h) ∧ (h < 25 ∨ 29 < h) → T1 h = zsT T 3 t h ∧ FR1 h = zzR FR 3 h ∧ AR1 h = zzQ AR 3 h ∧ FI1 h = zzF FI 3 h ∧ AI1 h = zzA AI 3 h) : zDy T T1 FR (zsR FR1 0 0 (some 3)) AR AR1 FI FI1 AI AI1 := by
  have q : ∀ h, (h < 1 ∨ 4 < h) ∧ (h < 25 ∨ 29 < h) → T1 h = T h ∧ FR1 h = FR h ∧ AR1 h = AR h ∧ FI1 h = FI h ∧ AI1 h = AI h := fun h a => by
    have z := gr h a
    rw [zsT_ne (by omega), zzR_neF (by omega), zzQ_neF (by omega), zzF_neF (by omega), zzA_neF (by omega)] at z
    exact z
  refine ⟨fun h a => ⟨(q h a).1, (q h a).2.2.1, (q h a).2.2.2.1, (q h a).2.2.2.2⟩, fun h i a b => ?_, zsR_eq⟩
  have e : zsR FR1 0 0 (some 3) h i = FR1 h i := if_neg (fun z => by omega)
  rw [e, (q h a).2.1]
set_option maxRecDepth 20000 in
theorem s_X6_init {T : zTt} {FR : zFR} {AR : zAR} {FI : zFI} {AI : zAI} {Post : zPost}  (hT : T 3 = (1, 4)) (h1 : (T 1).1 = 0) (h2 : (T 2).1 = 0) (h4 : (T 4).1 = 0) (hf : ∀ k, 25 ≤ k → k ≤ 29 → (T k).1 = 0) (hp : ∀ (T1 : zTt) (FR1 : zFR) (AR1 : zAR) (FI1 : zFI) (AI1 : zAI), (∀ h, (h < 1 ∨ 4 < h) ∧ (h < 25 ∨ 29 < h) → T1 h = T h ∧ FR1 h = FR h ∧ AR1 h = AR h ∧ FI1 h = FI h ∧ AI1 h = AI h) → (T1 3 = (1, 4) ∧ T1 4 = (2, 4) ∧ FR1 3 1 = some 4 ∧ FR1 3 0 = some 1 ∧ FR1 3 2 = some 25) → (T1 1 = (1, 5) ∧ T1 2 = (3, 640) ∧ FR1 1 0 = some 2) → (∀ j, FI1 1 j = 0) → (∀ j, FI1 3 j = FI 3 j) → bLay T1 FR1 25 → Post (zI 0) T1 FR1 AR1 FI1 AI1) : zMet M_X6_init [zR 3] T FR AR FI AI Post := by
  refine zMet.of [some (zR 3)] rfl rfl rfl (fun G C => ?_)
  refine zv_aload_n C dX6_init_0 rfl rfl ?_
  refine zv_objInit C dX6_init_1 l_X6_3 oi_im oi_cd (Nat.le_of_ble_eq_true rfl) (Nat.le_of_ble_eq_true rfl) ?_
  refine zv_aload_n C dX6_init_4 rfl rfl ?_
  refine zv_new C (1) dX6_init_5 zcl_5 cl_X6_9 in_X7 ini_3 (by decide) h1 rfl ⟨Nat.le_of_ble_eq_true rfl, Nat.le_of_ble_eq_true rfl⟩ ?_
  refine zv_dup C dX6_init_8 rfl ?_
  refine zv_cINn C dX6_init_9 k_X7_init l_X6_11 ⟨Nat.le_of_ble_eq_true rfl, Nat.le_of_ble_eq_true rfl⟩ 2 642 ⟨rfl, rfl⟩ ⟨Nat.le_of_ble_eq_true rfl, Nat.le_of_ble_eq_true rfl⟩ rfl rfl ?_
  refine s_X7_init zsT_eq (by rw [zsT_ne (by omega)]; exact h2) (Nat.le_of_ble_eq_true rfl) (fun Ta FRa ARa FIa AIa gra laa fia aia => ?_)
  have ga : ∀ h, h < 1 ∨ 2 < h → Ta h = T h ∧ FRa h = FR h ∧ ARa h = AR h ∧ FIa h = FI h ∧ AIa h = AI h := fun h a => by
    have z := gra h a
    rw [zsT_ne (by omega), zzR_neF (by omega), zzQ_neF (by omega), zzF_neF (by omega), zzA_neF (by omega)] at z
    exact z
  have hTa : Ta 3 = (1, 4) := ((ga 3 (by omega)).1).trans hT
  refine zv_putPF C dX6_init_12 f_X6_12 (by first | exact hT1 | exact hTa | exact hT | (simp (disch := omega) only [zsT_ne]; first | exact hTa | exact hT)) rfl rfl (fun h => by cases h; rfl) ?_
  refine zv_aload_n C dX6_init_15 rfl rfl ?_
  refine zv_iconst C dX6_init_16 rfl ?_
  refine zv_newI (N := 4) C (4) dX6_init_17 ac_int rfl (by decide) (by rw [(ga 4 (by omega)).1]; exact h4) rfl ⟨Nat.le_of_ble_eq_true rfl, Nat.le_of_ble_eq_true rfl⟩ ?_
  refine zv_putPF C dX6_init_19 f_X6_18 (by first | exact hT1 | exact hTa | exact hT | (simp (disch := omega) only [zsT_ne]; first | exact hTa | exact hT)) rfl rfl (fun h => by cases h; rfl) ?_
  refine zv_aload_n C dX6_init_22 rfl rfl ?_
  refine zv_new C (25) dX6_init_23 zcl_1 cl_X6_22 in_X2 ini_4 (by decide) (by rw [zsT_ne (by omega), (ga 25 (by omega)).1]; exact hf 25 (by omega) (by omega)) rfl ⟨Nat.le_of_ble_eq_true rfl, Nat.le_of_ble_eq_true rfl⟩ ?_
  refine zv_dup C dX6_init_26 rfl ?_
  refine zv_cINn C dX6_init_27 k_X2_init l_X6_24 ⟨Nat.le_of_ble_eq_true rfl, Nat.le_of_ble_eq_true rfl⟩ 8 1085 ⟨rfl, rfl⟩ ⟨Nat.le_of_ble_eq_true rfl, Nat.le_of_ble_eq_true rfl⟩ rfl rfl ?_
  refine s_X2_init (B := 25) zsT_eq (by rw [zsT_ne (by omega), zsT_ne (by omega), (ga 26 (by omega)).1]; exact hf 26 (by omega) (by omega)) (by rw [zsT_ne (by omega), zsT_ne (by omega), (ga 27 (by omega)).1]; exact hf 27 (by omega) (by omega)) (by rw [zsT_ne (by omega), zsT_ne (by omega), (ga 28 (by omega)).1]; exact hf 28 (by omega) (by omega)) (by rw [zsT_ne (by omega), zsT_ne (by omega), (ga 29 (by omega)).1]; exact hf 29 (by omega) (by omega)) (Nat.le_of_ble_eq_true rfl) (fun T1 FR1 AR1 FI1 AI1 gr la fi ai => ?_)
  have hT1 : T1 3 = (1, 4) := ((gr 3 (by omega)).1).trans (by rw [zsT_ne (by omega), zsT_ne (by omega)]; exact hTa)
  refine zv_putP C dX6_init_30 f_X6_25 (by first | exact hT1 | exact hTa | exact hT | (simp (disch := omega) only [zsT_ne]; first | exact hTa | exact hT)) rfl ?_
  refine zv_return C dX6_init_33 rfl rfl rfl ?_
  refine hp _ _ _ _ _ (fun h hh => ?_) ⟨hT1, ?_, ?_, ?_, zsR_eq⟩ ⟨?_, ?_, ?_⟩ (fun j => ?_) (fun j => ?_) ?_
  · have q := gr h (by omega)
    simp (disch := omega) only [zsT_ne, zzR_neF, zsR_neF, zzQ_neF, zzF_neF, zzA_neF] at q
    have a := ga h (by omega)
    rw [zsR_neF (by omega)]
    exact ⟨q.1.trans a.1, q.2.1.trans a.2.1, q.2.2.1.trans a.2.2.1, q.2.2.2.1.trans a.2.2.2.1, q.2.2.2.2.trans a.2.2.2.2⟩
  · rw [(gr 4 (by omega)).1, zsT_ne (by omega), zsT_eq]
  · rw [zsR_nj (by decide), (gr 3 (by omega)).2.1, zzR_neF (by omega), zsR_eq]
  · rw [zsR_nj (by decide), (gr 3 (by omega)).2.1, zzR_neF (by omega), zsR_nj (by decide), zzR_neF (by omega), zsR_eq]
  · rw [(gr 1 (by omega)).1, zsT_ne (by omega), zsT_ne (by omega)]; exact laa.1
  · rw [(gr 2 (by omega)).1, zsT_ne (by omega), zsT_ne (by omega)]; exact laa.2.1
  · rw [zsR_neF (by decide), (gr 1 (by omega)).2.1, zzR_neF (by omega), zsR_neF (by decide), zzR_neF (by omega), zsR_neF (by decide)]; exact laa.2.2
  · rw [(gr 1 (by omega)).2.2.2.1, zzF_neF (by omega), zzF_neF (by omega)]; exact (fia j).trans zzF_eq
  · rw [(gr 3 (by omega)).2.2.2.1, zzF_neF (by omega), zzF_neF (by omega), (ga 3 (by omega)).2.2.2.1]
  · exact bLay_fr la (fun j => by rw [zsR_neF (by decide)])
set_option maxRecDepth 20000 in
theorem s_X8_init {T : zTt} {FR : zFR} {AR : zAR} {FI : zFI} {AI : zAI} {Post : zPost} (h0 : T 0 = (1, 6)) (hf : ∀ k, 0 < k → k ≤ 29 → (T k).1 = 0) (hp : ∀ (T1 : zTt) (FR1 : zFR) (AR1 : zAR) (FI1 : zFI) (AI1 : zAI), (∀ h, 29 < h → T1 h = T h ∧ FI1 h = FI h ∧ AI1 h = AI h ∧ AR1 h = AR h) → dLay T1 FR1 20 25 → cLay T1 FR1 → bLay T1 FR1 20 → bLay T1 FR1 25 → FI1 1 1 = 0 → (∀ j, FI1 3 j = 0) → (∀ j, FI1 14 j = 0) → (∀ i, AR1 15 i = none) → (∀ i, AR1 16 i = none) → (FI1 20 6 = 1 ∧ (∀ j, j ≠ 6 → FI1 20 j = 0) ∧ ∀ a i, 21 ≤ a → a ≤ 24 → AI1 a i = 0) → Post (zI 0) T1 FR1 AR1 FI1 AI1) : zMet M_X8_init [zR 0] T FR AR FI AI Post := by
  refine zMet.of [some (zR 0)] rfl rfl rfl (fun G C => ?_)
  refine zv_aload_n C dX8_init_0 rfl rfl ?_
  refine zv_objInit C dX8_init_1 l_X8_3 oi_im oi_cd (Nat.le_of_ble_eq_true rfl) (Nat.le_of_ble_eq_true rfl) ?_
  refine zv_aload_n C dX8_init_4 rfl rfl ?_
  refine zv_new C (3) dX8_init_5 zcl_4 cl_X8_9 in_X6 ini_2 (by decide) (hf 3 (by omega) (by omega)) rfl ⟨Nat.le_of_ble_eq_true rfl, Nat.le_of_ble_eq_true rfl⟩ ?_
  refine zv_dup C dX8_init_8 rfl ?_
  refine zv_cINn C dX8_init_9 k_X6_init l_X8_11 ⟨Nat.le_of_ble_eq_true rfl, Nat.le_of_ble_eq_true rfl⟩ 9 1094 ⟨rfl, rfl⟩ ⟨Nat.le_of_ble_eq_true rfl, Nat.le_of_ble_eq_true rfl⟩ rfl rfl ?_
  refine s_X6_init zsT_eq (by rw [zsT_ne (by omega)]; exact hf 1 (by omega) (by omega)) (by rw [zsT_ne (by omega)]; exact hf 2 (by omega) (by omega)) (by rw [zsT_ne (by omega)]; exact hf 4 (by omega) (by omega)) (fun k a b => by rw [zsT_ne (by omega)]; exact hf k (by omega) (by omega)) (fun Tn FRn ARn FIn AIn gr la lt ft fi bl => ?_)
  refine zv_putPF C dX8_init_12 f_X8_12 (((gr 0 (by omega)).1).trans ((zsT_ne (by omega)).trans h0)) rfl rfl (fun h => by cases h; rfl) ?_
  suffices J : ∀ (Ta : zTt) (FRa : zFR) (ARa : zAR) (FIa : zFI) (AIa : zAI), zDy T Ta FR FRa AR ARa FI FIa AI AIa → (((Ta 3 = (1, 4) ∧ Ta 4 = (2, 4) ∧ FRa 3 1 = some 4 ∧ FRa 3 0 = some 1 ∧ FRa 3 2 = some 25) ∧ (∀ j, FIa 3 j = 0) ∧ bLay Ta FRa 25) ∧ (Ta 1 = (1, 5) ∧ Ta 2 = (3, 640) ∧ FRa 1 0 = some 2) ∧ ∀ j, FIa 1 j = 0) → zV G 15 [some (zR 0)] [] Ta FRa ARa FIa AIa 9 1094 from J _ _ _ _ _ (zDy.of gr) ⟨⟨⟨la.1, la.2.1, by rw [zsR_neF (by decide)]; exact la.2.2.1, by rw [zsR_neF (by decide)]; exact la.2.2.2.1, by rw [zsR_neF (by decide)]; exact la.2.2.2.2⟩, fun j => (fi j).trans zzF_eq, bLay_fr bl (fun j => by rw [zsR_neF (by decide)])⟩, ⟨lt.1, lt.2.1, by rw [zsR_neF (by decide)]; exact lt.2.2⟩, ft⟩
  intro Tz1 Rz1 Qz1 Fz1 Az1 e1 c1
  have h0 : Tz1 0 = (1, 6) := ((e1.1 0 (by omega)).1).trans h0
  have hf : ∀ k, 4 < k → k ≤ 24 → (Tz1 k).1 = 0 := fun k a b => by rw [(e1.1 k (by omega)).1]; exact hf k (by omega) (by omega)
  refine zv_aload_n C dX8_init_15 rfl rfl ?_
  refine zv_aload_n C dX8_init_16 rfl rfl ?_
  refine zv_getR C dX8_init_17 f_X8_12 h0 rfl e1.2.2 ?_
  refine zv_getR C dX8_init_20 f_X8_16 c1.1.1.1 rfl c1.1.1.2.2.2.1 ?_
  refine zv_putPF C dX8_init_23 f_X8_20 h0 rfl rfl (fun h => by cases h; rfl) ?_
  suffices J : ∀ (Ta : zTt) (FRa : zFR) (ARa : zAR) (FIa : zFI) (AIa : zAI), zDx 1 0 1 1 Tz1 Ta Rz1 FRa Qz1 ARa Fz1 FIa Az1 AIa → (True) → zV G 26 [some (zR 0)] [] Ta FRa ARa FIa AIa 9 1094 from J _ _ _ _ _ ⟨fun _ _ => ⟨rfl, rfl, rfl, rfl⟩, fun h i _ b => if_neg (fun z => by omega), zsR_eq⟩ trivial
  intro Tz2 Rz2 Qz2 Fz2 Az2 e2 c2
  have h0 : Tz2 0 = (1, 6) := ((e2.1 0 (by omega)).1).trans h0
  have hf : ∀ k, 4 < k → k ≤ 24 → (Tz2 k).1 = 0 := fun k a b => by rw [(e2.1 k (by omega)).1]; exact hf k (by omega) (by omega)
  refine zv_aload_n C dX8_init_26 rfl rfl ?_
  refine zv_new C (5) dX8_init_27 zcl_3 cl_X8_21 in_X4 ini_5 (by decide) (hf 5 (by omega) (by omega)) rfl ⟨Nat.le_of_ble_eq_true rfl, Nat.le_of_ble_eq_true rfl⟩ ?_
  refine zv_dup C dX8_init_30 rfl ?_
  refine zv_cINn C dX8_init_31 k_X4_init l_X8_23 ⟨Nat.le_of_ble_eq_true rfl, Nat.le_of_ble_eq_true rfl⟩ 18 1444 ⟨rfl, rfl⟩ ⟨Nat.le_of_ble_eq_true rfl, Nat.le_of_ble_eq_true rfl⟩ rfl rfl ?_
  refine s_X4_init (zsT_eq) (by rw [zsT_ne (by omega)]; exact hf 6 (by omega) (by omega)) (by rw [zsT_ne (by omega)]; exact hf 7 (by omega) (by omega)) (by rw [zsT_ne (by omega)]; exact hf 8 (by omega) (by omega)) (by rw [zsT_ne (by omega)]; exact hf 9 (by omega) (by omega)) (by rw [zsT_ne (by omega)]; exact hf 10 (by omega) (by omega)) (by rw [zsT_ne (by omega)]; exact hf 11 (by omega) (by omega)) (by rw [zsT_ne (by omega)]; exact hf 12 (by omega) (by omega)) (by rw [zsT_ne (by omega)]; exact hf 13 (by omega) (by omega)) (Nat.le_of_ble_eq_true rfl) (fun Tn FRn ARn FIn AIn gr la fi ai => ?_)
  refine zv_putPF C dX8_init_34 f_X8_24 (((gr 0 (by omega)).1).trans ((zsT_ne (by omega)).trans h0)) rfl rfl (fun h => by cases h; rfl) ?_
  suffices J : ∀ (Ta : zTt) (FRa : zFR) (ARa : zAR) (FIa : zFI) (AIa : zAI), zDx 5 13 2 5 Tz2 Ta Rz2 FRa Qz2 ARa Fz2 FIa Az2 AIa → (cLay Ta FRa) → zV G 37 [some (zR 0)] [] Ta FRa ARa FIa AIa 18 1444 from J _ _ _ _ _ (zDx.of gr (by omega) (by omega)) (by unfold cLay; rw [zsR_neF (show 5 ≠ 0 by decide)]; exact la)
  intro Tz3 Rz3 Qz3 Fz3 Az3 e3 c3
  have h0 : Tz3 0 = (1, 6) := ((e3.1 0 (by omega)).1).trans h0
  have hf : ∀ k, 13 < k → k ≤ 24 → (Tz3 k).1 = 0 := fun k a b => by rw [(e3.1 k (by omega)).1]; exact hf k (by omega) (by omega)
  refine zv_aload_n C dX8_init_37 rfl rfl ?_
  refine zv_new C (14) dX8_init_38 zcl_0 cl_X8_28 in_X1 ini_6 (by decide) (hf 14 (by omega) (by omega)) rfl ⟨Nat.le_of_ble_eq_true rfl, Nat.le_of_ble_eq_true rfl⟩ ?_
  refine zv_dup C dX8_init_41 rfl ?_
  refine zv_cINn C dX8_init_42 k_X1_init l_X8_30 ⟨Nat.le_of_ble_eq_true rfl, Nat.le_of_ble_eq_true rfl⟩ 20 1457 ⟨rfl, rfl⟩ ⟨Nat.le_of_ble_eq_true rfl, Nat.le_of_ble_eq_true rfl⟩ rfl rfl ?_
  refine s_X1_init (zsT_eq) (by rw [zsT_ne (by omega)]; exact hf 15 (by omega) (by omega)) (Nat.le_of_ble_eq_true rfl) (fun Tn FRn ARn FIn AIn gr la fi ai => ?_)
  refine zv_putPF C dX8_init_45 f_X8_31 (((gr 0 (by omega)).1).trans ((zsT_ne (by omega)).trans h0)) rfl rfl (fun h => by cases h; rfl) ?_
  suffices J : ∀ (Ta : zTt) (FRa : zFR) (ARa : zAR) (FIa : zFI) (AIa : zAI), zDx 14 15 3 14 Tz3 Ta Rz3 FRa Qz3 ARa Fz3 FIa Az3 AIa → ((Ta 14 = (1, 0) ∧ Ta 15 = (5, 10) ∧ FRa 14 0 = some 15) ∧ (∀ j, FIa 14 j = 0) ∧ ∀ i, ARa 15 i = none) → zV G 48 [some (zR 0)] [] Ta FRa ARa FIa AIa 20 1457 from J _ _ _ _ _ (zDx.of gr (by omega) (by omega)) ⟨⟨la.1, la.2.1, by rw [zsR_neF (by decide)]; exact la.2.2⟩, fun j => (fi j).trans zzF_eq, ai⟩
  intro Tz4 Rz4 Qz4 Fz4 Az4 e4 c4
  have h0 : Tz4 0 = (1, 6) := ((e4.1 0 (by omega)).1).trans h0
  have hf : ∀ k, 15 < k → k ≤ 24 → (Tz4 k).1 = 0 := fun k a b => by rw [(e4.1 k (by omega)).1]; exact hf k (by omega) (by omega)
  refine zv_aload_n C dX8_init_48 rfl rfl ?_
  refine zv_bipush C dX8_init_49 rfl ?_
  refine zv_newQ6 (N := 117) C (16) dX8_init_51 cl_X8_35 rfl (by decide) (hf 16 (by omega) (by omega)) rfl ⟨Nat.le_of_ble_eq_true rfl, Nat.le_of_ble_eq_true rfl⟩ ?_
  refine zv_putPF C dX8_init_54 f_X8_37 ((zsT_ne (by omega)).trans h0) rfl rfl (fun h => by cases h; rfl) ?_
  suffices J : ∀ (Ta : zTt) (FRa : zFR) (ARa : zAR) (FIa : zFI) (AIa : zAI), zDx 16 16 4 16 Tz4 Ta Rz4 FRa Qz4 ARa Fz4 FIa Az4 AIa → (Ta 16 = (6, 117) ∧ ∀ i, ARa 16 i = none) → zV G 57 [some (zR 0)] [] Ta FRa ARa FIa AIa 21 1574 from J _ _ _ _ _ (zDx.of (fun _ _ => ⟨rfl, rfl, rfl, rfl, rfl⟩) (by omega) (by omega)) ⟨zsT_eq, fun i => if_pos rfl⟩
  intro Tz5 Rz5 Qz5 Fz5 Az5 e5 c5
  have h0 : Tz5 0 = (1, 6) := ((e5.1 0 (by omega)).1).trans h0
  have hf : ∀ k, 16 < k → k ≤ 24 → (Tz5 k).1 = 0 := fun k a b => by rw [(e5.1 k (by omega)).1]; exact hf k (by omega) (by omega)
  refine zv_aload_n C dX8_init_57 rfl rfl ?_
  refine zv_new C (20) dX8_init_58 zcl_1 cl_X8_41 in_X2 ini_4 (by decide) (hf 20 (by omega) (by omega)) rfl ⟨Nat.le_of_ble_eq_true rfl, Nat.le_of_ble_eq_true rfl⟩ ?_
  refine zv_dup C dX8_init_61 rfl ?_
  refine zv_cINn C dX8_init_62 k_X2_init l_X8_43 ⟨Nat.le_of_ble_eq_true rfl, Nat.le_of_ble_eq_true rfl⟩ 26 2013 ⟨rfl, rfl⟩ ⟨Nat.le_of_ble_eq_true rfl, Nat.le_of_ble_eq_true rfl⟩ rfl rfl ?_
  refine s_X2_init (zsT_eq) (by rw [zsT_ne (by omega)]; exact hf 21 (by omega) (by omega)) (by rw [zsT_ne (by omega)]; exact hf 22 (by omega) (by omega)) (by rw [zsT_ne (by omega)]; exact hf 23 (by omega) (by omega)) (by rw [zsT_ne (by omega)]; exact hf 24 (by omega) (by omega)) (Nat.le_of_ble_eq_true rfl) (fun Tn FRn ARn FIn AIn gr la fi ai => ?_)
  refine zv_putP C dX8_init_65 f_X8_44 (((gr 0 (by omega)).1).trans ((zsT_ne (by omega)).trans h0)) rfl ?_
  suffices J : ∀ (Ta : zTt) (FRa : zFR) (ARa : zAR) (FIa : zFI) (AIa : zAI), zDx 20 24 5 20 Tz5 Ta Rz5 FRa Qz5 ARa Fz5 FIa Az5 AIa → (bLay Ta FRa 20 ∧ FIa 20 6 = 1 ∧ (∀ j, j ≠ 6 → FIa 20 j = 0) ∧ ∀ a i, 21 ≤ a → a ≤ 24 → AIa a i = 0) → zV G 68 [some (zR 0)] [] Ta FRa ARa FIa AIa 26 2013 from J _ _ _ _ _ (zDx.of gr (by omega) (by omega)) ⟨bLay_fr la (fun j => by rw [zsR_neF (by decide)]), ai.1, fun j hj => (fi j hj).trans zzF_eq, ai.2⟩
  intro Tz6 Rz6 Qz6 Fz6 Az6 e6 c6
  have h0 : Tz6 0 = (1, 6) := ((e6.1 0 (by omega)).1).trans h0
  have hf : ∀ k, 24 < k → k ≤ 24 → (Tz6 k).1 = 0 := fun k a b => by rw [(e6.1 k (by omega)).1]; exact hf k (by omega) (by omega)
  refine zv_return C dX8_init_68 rfl rfl rfl ?_
  exact hp Tz6 Rz6 Qz6 Fz6 Az6 (fun h hh => ⟨((e6.1 h (by omega)).1).trans (((e5.1 h (by omega)).1).trans (((e4.1 h (by omega)).1).trans (((e3.1 h (by omega)).1).trans (((e2.1 h (by omega)).1).trans ((e1.1 h (by omega)).1))))), ((e6.1 h (by omega)).2.2.1).trans (((e5.1 h (by omega)).2.2.1).trans (((e4.1 h (by omega)).2.2.1).trans (((e3.1 h (by omega)).2.2.1).trans (((e2.1 h (by omega)).2.2.1).trans ((e1.1 h (by omega)).2.2.1))))), ((e6.1 h (by omega)).2.2.2).trans (((e5.1 h (by omega)).2.2.2).trans (((e4.1 h (by omega)).2.2.2).trans (((e3.1 h (by omega)).2.2.2).trans (((e2.1 h (by omega)).2.2.2).trans ((e1.1 h (by omega)).2.2.2))))), ((e6.1 h (by omega)).2.1).trans (((e5.1 h (by omega)).2.1).trans (((e4.1 h (by omega)).2.1).trans (((e3.1 h (by omega)).2.1).trans (((e2.1 h (by omega)).2.1).trans ((e1.1 h (by omega)).2.1)))))⟩) ⟨h0, ((e6.1 1 (by omega)).1).trans (((e5.1 1 (by omega)).1).trans (((e4.1 1 (by omega)).1).trans (((e3.1 1 (by omega)).1).trans (((e2.1 1 (by omega)).1).trans (c1.2.1.1))))), ((e6.1 2 (by omega)).1).trans (((e5.1 2 (by omega)).1).trans (((e4.1 2 (by omega)).1).trans (((e3.1 2 (by omega)).1).trans (((e2.1 2 (by omega)).1).trans (c1.2.1.2.1))))), ((e6.1 3 (by omega)).1).trans (((e5.1 3 (by omega)).1).trans (((e4.1 3 (by omega)).1).trans (((e3.1 3 (by omega)).1).trans (((e2.1 3 (by omega)).1).trans (c1.1.1.1))))), ((e6.1 4 (by omega)).1).trans (((e5.1 4 (by omega)).1).trans (((e4.1 4 (by omega)).1).trans (((e3.1 4 (by omega)).1).trans (((e2.1 4 (by omega)).1).trans (c1.1.1.2.1))))), ((e6.1 14 (by omega)).1).trans (((e5.1 14 (by omega)).1).trans (c4.1.1)), ((e6.1 15 (by omega)).1).trans (((e5.1 15 (by omega)).1).trans (c4.1.2.1)), ((e6.1 16 (by omega)).1).trans (c5.1), (e6.2.1 0 1 (by omega) (by omega)).trans ((e5.2.1 0 1 (by omega) (by omega)).trans ((e4.2.1 0 1 (by omega) (by omega)).trans ((e3.2.1 0 1 (by omega) (by omega)).trans (e2.2.2)))), (e6.2.1 0 0 (by omega) (by omega)).trans ((e5.2.1 0 0 (by omega) (by omega)).trans ((e4.2.1 0 0 (by omega) (by omega)).trans ((e3.2.1 0 0 (by omega) (by omega)).trans ((e2.2.1 0 0 (by omega) (by omega)).trans (e1.2.2))))), (e6.2.1 0 2 (by omega) (by omega)).trans ((e5.2.1 0 2 (by omega) (by omega)).trans ((e4.2.1 0 2 (by omega) (by omega)).trans (e3.2.2))), (e6.2.1 0 3 (by omega) (by omega)).trans ((e5.2.1 0 3 (by omega) (by omega)).trans (e4.2.2)), (e6.2.1 0 4 (by omega) (by omega)).trans (e5.2.2), e6.2.2, (e6.2.1 3 2 (by omega) (by omega)).trans ((e5.2.1 3 2 (by omega) (by omega)).trans ((e4.2.1 3 2 (by omega) (by omega)).trans ((e3.2.1 3 2 (by omega) (by omega)).trans ((e2.2.1 3 2 (by omega) (by omega)).trans (c1.1.1.2.2.2.2))))), (e6.2.1 1 0 (by omega) (by omega)).trans ((e5.2.1 1 0 (by omega) (by omega)).trans ((e4.2.1 1 0 (by omega) (by omega)).trans ((e3.2.1 1 0 (by omega) (by omega)).trans ((e2.2.1 1 0 (by omega) (by omega)).trans (c1.2.1.2.2))))), (e6.2.1 3 1 (by omega) (by omega)).trans ((e5.2.1 3 1 (by omega) (by omega)).trans ((e4.2.1 3 1 (by omega) (by omega)).trans ((e3.2.1 3 1 (by omega) (by omega)).trans ((e2.2.1 3 1 (by omega) (by omega)).trans (c1.1.1.2.2.1))))), (e6.2.1 14 0 (by omega) (by omega)).trans ((e5.2.1 14 0 (by omega) (by omega)).trans (c4.1.2.2)), (e6.2.1 3 0 (by omega) (by omega)).trans ((e5.2.1 3 0 (by omega) (by omega)).trans ((e4.2.1 3 0 (by omega) (by omega)).trans ((e3.2.1 3 0 (by omega) (by omega)).trans ((e2.2.1 3 0 (by omega) (by omega)).trans (c1.1.1.2.2.2.1)))))⟩ ⟨((e6.1 5 (by omega)).1).trans (((e5.1 5 (by omega)).1).trans (((e4.1 5 (by omega)).1).trans (c3.1))), ((e6.1 6 (by omega)).1).trans (((e5.1 6 (by omega)).1).trans (((e4.1 6 (by omega)).1).trans (c3.2.1))), ((e6.1 7 (by omega)).1).trans (((e5.1 7 (by omega)).1).trans (((e4.1 7 (by omega)).1).trans (c3.2.2.1))), ((e6.1 8 (by omega)).1).trans (((e5.1 8 (by omega)).1).trans (((e4.1 8 (by omega)).1).trans (c3.2.2.2.1))), ((e6.1 9 (by omega)).1).trans (((e5.1 9 (by omega)).1).trans (((e4.1 9 (by omega)).1).trans (c3.2.2.2.2.1))), ((e6.1 10 (by omega)).1).trans (((e5.1 10 (by omega)).1).trans (((e4.1 10 (by omega)).1).trans (c3.2.2.2.2.2.1))), ((e6.1 11 (by omega)).1).trans (((e5.1 11 (by omega)).1).trans (((e4.1 11 (by omega)).1).trans (c3.2.2.2.2.2.2.1))), ((e6.1 12 (by omega)).1).trans (((e5.1 12 (by omega)).1).trans (((e4.1 12 (by omega)).1).trans (c3.2.2.2.2.2.2.2.1))), ((e6.1 13 (by omega)).1).trans (((e5.1 13 (by omega)).1).trans (((e4.1 13 (by omega)).1).trans (c3.2.2.2.2.2.2.2.2.1))), (e6.2.1 5 0 (by omega) (by omega)).trans ((e5.2.1 5 0 (by omega) (by omega)).trans ((e4.2.1 5 0 (by omega) (by omega)).trans (c3.2.2.2.2.2.2.2.2.2.1))), (e6.2.1 5 1 (by omega) (by omega)).trans ((e5.2.1 5 1 (by omega) (by omega)).trans ((e4.2.1 5 1 (by omega) (by omega)).trans (c3.2.2.2.2.2.2.2.2.2.2.1))), (e6.2.1 5 2 (by omega) (by omega)).trans ((e5.2.1 5 2 (by omega) (by omega)).trans ((e4.2.1 5 2 (by omega) (by omega)).trans (c3.2.2.2.2.2.2.2.2.2.2.2.1))), (e6.2.1 5 3 (by omega) (by omega)).trans ((e5.2.1 5 3 (by omega) (by omega)).trans ((e4.2.1 5 3 (by omega) (by omega)).trans (c3.2.2.2.2.2.2.2.2.2.2.2.2.1))), (e6.2.1 5 4 (by omega) (by omega)).trans ((e5.2.1 5 4 (by omega) (by omega)).trans ((e4.2.1 5 4 (by omega) (by omega)).trans (c3.2.2.2.2.2.2.2.2.2.2.2.2.2.1))), (e6.2.1 5 5 (by omega) (by omega)).trans ((e5.2.1 5 5 (by omega) (by omega)).trans ((e4.2.1 5 5 (by omega) (by omega)).trans (c3.2.2.2.2.2.2.2.2.2.2.2.2.2.2.1))), (e6.2.1 5 6 (by omega) (by omega)).trans ((e5.2.1 5 6 (by omega) (by omega)).trans ((e4.2.1 5 6 (by omega) (by omega)).trans (c3.2.2.2.2.2.2.2.2.2.2.2.2.2.2.2.1))), (e6.2.1 5 7 (by omega) (by omega)).trans ((e5.2.1 5 7 (by omega) (by omega)).trans ((e4.2.1 5 7 (by omega) (by omega)).trans (c3.2.2.2.2.2.2.2.2.2.2.2.2.2.2.2.2)))⟩ ⟨c6.1.1, c6.1.2.1, c6.1.2.2.1, c6.1.2.2.2.1, c6.1.2.2.2.2.1, c6.1.2.2.2.2.2.1, c6.1.2.2.2.2.2.2.1, c6.1.2.2.2.2.2.2.2.1, c6.1.2.2.2.2.2.2.2.2⟩ ⟨((e6.1 25 (by omega)).1).trans (((e5.1 25 (by omega)).1).trans (((e4.1 25 (by omega)).1).trans (((e3.1 25 (by omega)).1).trans (((e2.1 25 (by omega)).1).trans (c1.1.2.2.1))))), ((e6.1 26 (by omega)).1).trans (((e5.1 26 (by omega)).1).trans (((e4.1 26 (by omega)).1).trans (((e3.1 26 (by omega)).1).trans (((e2.1 26 (by omega)).1).trans (c1.1.2.2.2.1))))), ((e6.1 27 (by omega)).1).trans (((e5.1 27 (by omega)).1).trans (((e4.1 27 (by omega)).1).trans (((e3.1 27 (by omega)).1).trans (((e2.1 27 (by omega)).1).trans (c1.1.2.2.2.2.1))))), ((e6.1 28 (by omega)).1).trans (((e5.1 28 (by omega)).1).trans (((e4.1 28 (by omega)).1).trans (((e3.1 28 (by omega)).1).trans (((e2.1 28 (by omega)).1).trans (c1.1.2.2.2.2.2.1))))), ((e6.1 29 (by omega)).1).trans (((e5.1 29 (by omega)).1).trans (((e4.1 29 (by omega)).1).trans (((e3.1 29 (by omega)).1).trans (((e2.1 29 (by omega)).1).trans (c1.1.2.2.2.2.2.2.1))))), (e6.2.1 25 0 (by omega) (by omega)).trans ((e5.2.1 25 0 (by omega) (by omega)).trans ((e4.2.1 25 0 (by omega) (by omega)).trans ((e3.2.1 25 0 (by omega) (by omega)).trans ((e2.2.1 25 0 (by omega) (by omega)).trans (c1.1.2.2.2.2.2.2.2.1))))), (e6.2.1 25 1 (by omega) (by omega)).trans ((e5.2.1 25 1 (by omega) (by omega)).trans ((e4.2.1 25 1 (by omega) (by omega)).trans ((e3.2.1 25 1 (by omega) (by omega)).trans ((e2.2.1 25 1 (by omega) (by omega)).trans (c1.1.2.2.2.2.2.2.2.2.1))))), (e6.2.1 25 2 (by omega) (by omega)).trans ((e5.2.1 25 2 (by omega) (by omega)).trans ((e4.2.1 25 2 (by omega) (by omega)).trans ((e3.2.1 25 2 (by omega) (by omega)).trans ((e2.2.1 25 2 (by omega) (by omega)).trans (c1.1.2.2.2.2.2.2.2.2.2.1))))), (e6.2.1 25 3 (by omega) (by omega)).trans ((e5.2.1 25 3 (by omega) (by omega)).trans ((e4.2.1 25 3 (by omega) (by omega)).trans ((e3.2.1 25 3 (by omega) (by omega)).trans ((e2.2.1 25 3 (by omega) (by omega)).trans (c1.1.2.2.2.2.2.2.2.2.2.2)))))⟩ ((congrFun (e6.1 1 (by omega)).2.2.1 1).trans ((congrFun (e5.1 1 (by omega)).2.2.1 1).trans ((congrFun (e4.1 1 (by omega)).2.2.1 1).trans ((congrFun (e3.1 1 (by omega)).2.2.1 1).trans ((congrFun (e2.1 1 (by omega)).2.2.1 1).trans (c1.2.2 1)))))) (fun j => (congrFun (e6.1 3 (by omega)).2.2.1 j).trans ((congrFun (e5.1 3 (by omega)).2.2.1 j).trans ((congrFun (e4.1 3 (by omega)).2.2.1 j).trans ((congrFun (e3.1 3 (by omega)).2.2.1 j).trans ((congrFun (e2.1 3 (by omega)).2.2.1 j).trans (c1.1.2.1 j)))))) (fun j => (congrFun (e6.1 14 (by omega)).2.2.1 j).trans ((congrFun (e5.1 14 (by omega)).2.2.1 j).trans (c4.2.1 j))) (fun i => (congrFun (e6.1 15 (by omega)).2.1 i).trans ((congrFun (e5.1 15 (by omega)).2.1 i).trans (c4.2.2 i))) (fun i => (congrFun (e6.1 16 (by omega)).2.1 i).trans (c5.2 i)) ⟨c6.2.1, fun j hj => c6.2.2.1 j hj, fun a i x y => c6.2.2.2 a i x y⟩

