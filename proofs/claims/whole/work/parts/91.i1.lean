set_option maxRecDepth 20000 in
theorem s_X1_keepA {T : zTt} {FR : zFR} {AR : zAR} {FI : zFI} {AI : zAI} {Post : zPost} {B B2 D : Nat} {N : Int → Int} (hd : dLay T FR B D) (hB : bLay T FR B) (hB2 : bLay T FR B2) (hq : AR 15 (FI 14 1) = some B2) (g0 : 0 ≤ FI 14 1) (g1 : FI 14 1 < 10) (g2 : 0 ≤ FI 14 2) (g3 : FI 14 2 ≤ 10) (hK : bk FI AI B N) (hb : N 2 ≤ 3 ∧ N 3 ≤ 30 ∧ N 4 ≤ 10) (gd : B + 5 ≤ B2 ∨ B2 + 5 ≤ B) (gB : 14 < B2) (hp : ∀ (F1 : zFI) (A1 : zAI), bFr B2 FI F1 AI A1 → bk F1 A1 B2 N → Post (zI 0) T FR AR (zsF (zsF F1 14 1 ((FI 14 1 + 1) % 10)) 14 2 (min (FI 14 2 + 1) 10)) A1) : zMet M_X1_keep [zR 14, zR B] T FR AR FI AI Post := by
  refine zMet.of [some (zR 14), some (zR B)] rfl rfl rfl (fun G C => ?_)
  refine zv_aload_n C dX1_keep_0 rfl rfl ?_
  refine zv_getR C dX1_keep_1 f_X1_11 hd.2.2.2.2.2.1 rfl hd.2.2.2.2.2.2.2.2.2.2.2.2.2.2.2.2.2.1 ?_
  refine zv_aload_n C dX1_keep_4 rfl rfl ?_
  refine zv_getI C dX1_keep_5 f_X1_15 hd.2.2.2.2.2.1 rfl ?_
  refine zv_aaload5 C dX1_keep_8 hd.2.2.2.2.2.2.1 ⟨by omega, by omega⟩ ?_
  rw [hq]
  refine zv_ifnonnull C 28 dX1_keep_9 rfl (fun _ _ => ?_) (fun h => by cases h)
  refine zv_aload_n C dX1_keep_28 rfl rfl ?_
  refine zv_getR C dX1_keep_29 f_X1_11 hd.2.2.2.2.2.1 rfl hd.2.2.2.2.2.2.2.2.2.2.2.2.2.2.2.2.2.1 ?_
  refine zv_aload_n C dX1_keep_32 rfl rfl ?_
  refine zv_getI C dX1_keep_33 f_X1_15 hd.2.2.2.2.2.1 rfl ?_
  refine zv_aaload5 C dX1_keep_36 hd.2.2.2.2.2.2.1 ⟨by omega, by omega⟩ ?_
  rw [hq]
  refine zv_aload_n C dX1_keep_37 rfl rfl ?_
  refine zv_cVv0_1 C dX1_keep_38 k_X2_copyFrom l_X1_20 hB2.1 rfl ⟨Nat.le_of_ble_eq_true rfl, Nat.le_of_ble_eq_true rfl⟩ ⟨rfl, rfl⟩ ⟨Nat.le_of_ble_eq_true rfl, Nat.le_of_ble_eq_true rfl⟩ rfl rfl ?_
  refine s_X2_copyFrom hB2 hB hK hb (by omega) (fun F1 A1 f1 kk => ?_)
  have e1 : F1 14 1 = FI 14 1 := f1.1 14 1 (by omega)
  have e2 : F1 14 2 = FI 14 2 := f1.1 14 2 (by omega)
  refine zv_aload_n C dX1_keep_41 rfl rfl ?_
  refine zv_aload_n C dX1_keep_42 rfl rfl ?_
  refine zv_getI C dX1_keep_43 f_X1_15 hd.2.2.2.2.2.1 rfl ?_
  rw [e1]
  refine zv_iconst C dX1_keep_46 rfl ?_
  refine zv_iadd C dX1_keep_47 ⟨by omega, by omega⟩ ?_
  refine zv_bipush C dX1_keep_48 rfl ?_
  refine zv_irem C dX1_keep_50 (by omega) (by omega) ?_
  refine zv_putI C dX1_keep_51 f_X1_15 hd.2.2.2.2.2.1 rfl ?_
  refine zv_aload_n C dX1_keep_54 rfl rfl ?_
  refine zv_aload_n C dX1_keep_55 rfl rfl ?_
  refine zv_getI C dX1_keep_56 f_X1_24 hd.2.2.2.2.2.1 rfl ?_
  try simp (disch := omega) only [zsF_eq, zsF_ne]
  try rw [zsF_ne (by decide)]
  rw [e2]
  refine zv_iconst C dX1_keep_59 rfl ?_
  refine zv_iadd C dX1_keep_60 ⟨by omega, by omega⟩ ?_
  refine zv_bipush C dX1_keep_61 rfl ?_
  refine zv_min C dX1_keep_63 l_X1_27 mi_st ini_Math mi_cd (Nat.le_of_ble_eq_true rfl) (Nat.le_of_ble_eq_true rfl) ⟨Nat.le_of_ble_eq_true rfl, Nat.le_of_ble_eq_true rfl⟩ ?_
  refine zv_putI C dX1_keep_66 f_X1_24 hd.2.2.2.2.2.1 rfl ?_
  refine zv_return C dX1_keep_69 rfl rfl rfl ?_
  exact hp F1 A1 f1 kk
theorem dLay_gr {T T1 : zTt} {FR FR1 : zFR} {B D : Nat} (h : dLay T FR B D) (g : ∀ k, k < 17 → T1 k = T k ∧ FR1 k = FR k) : dLay T1 FR1 B D := by
  unfold dLay
  rw [(g 0 (by decide)).1, (g 1 (by decide)).1, (g 2 (by decide)).1, (g 3 (by decide)).1, (g 4 (by decide)).1, (g 14 (by decide)).1, (g 15 (by decide)).1, (g 16 (by decide)).1, (g 0 (by decide)).2, (g 1 (by decide)).2, (g 3 (by decide)).2, (g 14 (by decide)).2]
  exact h
theorem bLay_gr {T T1 : zTt} {FR FR1 : zFR} {B : Nat} (h : bLay T FR B) (g : ∀ k, B ≤ k → k ≤ B + 4 → T1 k = T k ∧ FR1 k = FR k) : bLay T1 FR1 B := by
  unfold bLay
  rw [(g B (by omega) (by omega)).1, (g (B + 1) (by omega) (by omega)).1, (g (B + 2) (by omega) (by omega)).1, (g (B + 3) (by omega) (by omega)).1, (g (B + 4) (by omega) (by omega)).1, (g B (by omega) (by omega)).2]
  exact h
theorem zsQ_eq {AR : zAR} {a : Nat} {i : Int} {r : Option Nat} : zsQ AR a i r a i = r := if_pos ⟨rfl, rfl⟩
set_option maxRecDepth 20000 in
theorem s_X1_keepB {T : zTt} {FR : zFR} {AR : zAR} {FI : zFI} {AI : zAI} {Post : zPost} {B B2 D : Nat} {N : Int → Int} (hd : dLay T FR B D) (hB : bLay T FR B) (hq : AR 15 (FI 14 1) = none) (hf : ∀ k, B2 ≤ k → k ≤ B2 + 4 → (T k).1 = 0) (hz : B2 + 4 < zb) (gB2 : 17 ≤ B2) (g0 : 0 ≤ FI 14 1) (g1 : FI 14 1 < 10) (g2 : 0 ≤ FI 14 2) (g3 : FI 14 2 ≤ 10) (hK : bk FI AI B N) (hb : N 2 ≤ 3 ∧ N 3 ≤ 30 ∧ N 4 ≤ 10) (gd : B + 5 ≤ B2 ∨ B2 + 5 ≤ B) (gB : 14 < B2) (hp : ∀ (T1 : zTt) (FR1 : zFR) (AR1 : zAR) (FI1 : zFI) (AI1 : zAI), zGr B2 (B2 + 4) T T1 FR FR1 AR AR1 FI FI1 AI AI1 → bLay T1 FR1 B2 → ∀ (F1 : zFI) (A1 : zAI), bFr B2 FI1 F1 AI1 A1 → bk F1 A1 B2 N → Post (zI 0) T1 FR1 (zsQ AR1 15 (FI 14 1) (some B2)) (zsF (zsF F1 14 1 ((FI 14 1 + 1) % 10)) 14 2 (min (FI 14 2 + 1) 10)) A1) : zMet M_X1_keep [zR 14, zR B] T FR AR FI AI Post := by
  refine zMet.of [some (zR 14), some (zR B)] rfl rfl rfl (fun G C => ?_)
  refine zv_aload_n C dX1_keep_0 rfl rfl ?_
  refine zv_getR C dX1_keep_1 f_X1_11 hd.2.2.2.2.2.1 rfl hd.2.2.2.2.2.2.2.2.2.2.2.2.2.2.2.2.2.1 ?_
  refine zv_aload_n C dX1_keep_4 rfl rfl ?_
  refine zv_getI C dX1_keep_5 f_X1_15 hd.2.2.2.2.2.1 rfl ?_
  refine zv_aaload5 C dX1_keep_8 hd.2.2.2.2.2.2.1 ⟨by omega, by omega⟩ ?_
  rw [hq]
  refine zv_ifnonnull C 28 dX1_keep_9 rfl (fun a h => by cases h) (fun _ => ?_)
  refine zv_aload_n C dX1_keep_12 rfl rfl ?_
  refine zv_getR C dX1_keep_13 f_X1_11 hd.2.2.2.2.2.1 rfl hd.2.2.2.2.2.2.2.2.2.2.2.2.2.2.2.2.2.1 ?_
  refine zv_aload_n C dX1_keep_16 rfl rfl ?_
  refine zv_getI C dX1_keep_17 f_X1_15 hd.2.2.2.2.2.1 rfl ?_
  refine zv_new C (B2) dX1_keep_20 zcl_1 cl_X1_9 in_X2 ini_4 (by decide) (hf B2 (by omega) (by omega)) (by rw [Nat.blt_eq]; omega) ⟨Nat.le_of_ble_eq_true rfl, Nat.le_of_ble_eq_true rfl⟩ ?_
  refine zv_dup C dX1_keep_23 rfl ?_
  refine zv_cINn C dX1_keep_24 k_X2_init l_X1_19 ⟨Nat.le_of_ble_eq_true rfl, Nat.le_of_ble_eq_true rfl⟩ 5 439 ⟨rfl, rfl⟩ ⟨Nat.le_of_ble_eq_true rfl, Nat.le_of_ble_eq_true rfl⟩ rfl rfl ?_
  refine s_X2_init zsT_eq (by rw [zsT_ne (by omega)]; exact hf (B2 + 1) (by omega) (by omega)) (by rw [zsT_ne (by omega)]; exact hf (B2 + 2) (by omega) (by omega)) (by rw [zsT_ne (by omega)]; exact hf (B2 + 3) (by omega) (by omega)) (by rw [zsT_ne (by omega)]; exact hf (B2 + 4) (by omega) (by omega)) hz (fun T1 FR1 AR1 FI1 AI1 gr hB2 hf2 hz2 => ?_)
  have gr2 : zGr B2 (B2 + 4) T T1 FR FR1 AR AR1 FI FI1 AI AI1 := fun h hh => by
    have q := gr h hh
    rw [zsT_ne (by omega), zzR_neF (by omega), zzQ_neF (by omega), zzF_neF (by omega), zzA_neF (by omega)] at q
    exact q
  have ei : FI1 14 = FI 14 := (gr2 14 (by omega)).2.2.2.1
  have hd := dLay_gr hd (fun k hk => ⟨(gr2 k (by omega)).1, (gr2 k (by omega)).2.1⟩)
  have hB := bLay_gr hB (fun k a b => ⟨(gr2 k (by omega)).1, (gr2 k (by omega)).2.1⟩)
  have hK : bk FI1 AI1 B N := bk_fr hK (fun j _ _ => by rw [(gr2 B (by omega)).2.2.2.1]) (fun a c d => (gr2 a (by omega)).2.2.2.2)
  have e5 : FI1 14 1 = FI 14 1 := by rw [ei]
  have e6 : FI1 14 2 = FI 14 2 := by rw [ei]
  refine zv_aastore5 C dX1_keep_27 hd.2.2.2.2.2.2.1 hB2.1 ⟨by omega, by omega⟩ ?_
  refine zv_aload_n C dX1_keep_28 rfl rfl ?_
  refine zv_getR C dX1_keep_29 f_X1_11 hd.2.2.2.2.2.1 rfl hd.2.2.2.2.2.2.2.2.2.2.2.2.2.2.2.2.2.1 ?_
  refine zv_aload_n C dX1_keep_32 rfl rfl ?_
  refine zv_getI C dX1_keep_33 f_X1_15 hd.2.2.2.2.2.1 rfl ?_
  try rw [e5]
  refine zv_aaload5 C dX1_keep_36 hd.2.2.2.2.2.2.1 ⟨by omega, by omega⟩ ?_
  rw [zsQ_eq]
  refine zv_aload_n C dX1_keep_37 rfl rfl ?_
  refine zv_cVv0_1 C dX1_keep_38 k_X2_copyFrom l_X1_20 hB2.1 rfl ⟨Nat.le_of_ble_eq_true rfl, Nat.le_of_ble_eq_true rfl⟩ ⟨rfl, rfl⟩ ⟨Nat.le_of_ble_eq_true rfl, Nat.le_of_ble_eq_true rfl⟩ rfl rfl ?_
  refine s_X2_copyFrom hB2 hB hK hb (by omega) (fun F1 A1 f1 kk => ?_)
  have e1 : F1 14 1 = FI 14 1 := (f1.1 14 1 (by omega)).trans e5
  have e2 : F1 14 2 = FI 14 2 := (f1.1 14 2 (by omega)).trans e6
  refine zv_aload_n C dX1_keep_41 rfl rfl ?_
  refine zv_aload_n C dX1_keep_42 rfl rfl ?_
  refine zv_getI C dX1_keep_43 f_X1_15 hd.2.2.2.2.2.1 rfl ?_
  rw [e1]
  refine zv_iconst C dX1_keep_46 rfl ?_
  refine zv_iadd C dX1_keep_47 ⟨by omega, by omega⟩ ?_
  refine zv_bipush C dX1_keep_48 rfl ?_
  refine zv_irem C dX1_keep_50 (by omega) (by omega) ?_
  refine zv_putI C dX1_keep_51 f_X1_15 hd.2.2.2.2.2.1 rfl ?_
  refine zv_aload_n C dX1_keep_54 rfl rfl ?_
  refine zv_aload_n C dX1_keep_55 rfl rfl ?_
  refine zv_getI C dX1_keep_56 f_X1_24 hd.2.2.2.2.2.1 rfl ?_
  try simp (disch := omega) only [zsF_eq, zsF_ne]
  try rw [zsF_ne (by decide)]
  rw [e2]
  refine zv_iconst C dX1_keep_59 rfl ?_
  refine zv_iadd C dX1_keep_60 ⟨by omega, by omega⟩ ?_
  refine zv_bipush C dX1_keep_61 rfl ?_
  refine zv_min C dX1_keep_63 l_X1_27 mi_st ini_Math mi_cd (Nat.le_of_ble_eq_true rfl) (Nat.le_of_ble_eq_true rfl) ⟨Nat.le_of_ble_eq_true rfl, Nat.le_of_ble_eq_true rfl⟩ ?_
  refine zv_putI C dX1_keep_66 f_X1_24 hd.2.2.2.2.2.1 rfl ?_
  refine zv_return C dX1_keep_69 rfl rfl rfl ?_
  exact hp T1 FR1 AR1 FI1 AI1 gr2 hB2 F1 A1 f1 kk
