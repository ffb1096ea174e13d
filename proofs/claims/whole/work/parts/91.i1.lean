set_option maxRecDepth 20000 in
theorem s_X1_keepA {T : zTt} {FR : zFR} {AR : zAR} {FI : zFI} {AI : zAI} {Post : zPost} {B B2 D : Nat} {N : Int → Int} (hd : dLay T FR B D) (hB : bLay T FR B) (hB2 : bLay T FR B2) (hq : AR 15 (FI 14 1) = some B2) (g0 : 0 ≤ FI 14 1) (g1 : FI 14 1 < 10) (g2 : 0 ≤ FI 14 2) (g3 : FI 14 2 ≤ 10) (hK : bk FI AI B N) (hb : N 2 ≤ 3 ∧ N 3 ≤ 30 ∧ N 4 ≤ 10) (gd : B + 5 ≤ B2 ∨ B2 + 5 ≤ B) (gB : 14 < B2) (hp : ∀ (F1 : zFI) (A1 : zAI), bFr B2 FI F1 AI A1 → bk F1 A1 B2 N → Post (zI 0) T FR AR (zsF (zsF F1 14 1 ((FI 14 1 + 1) % 10)) 14 2 (min (FI 14 2 + 1) 10)) A1) : zMet M_X1_keep [zR 14, zR B] T FR AR FI AI Post := by
  refine zMet.of [some (zR 14), some (zR B)] rfl rfl rfl (fun G C => ?_)
  refine zv_aload_n C dX1_keep_0 rfl rfl ?_
  refine zv_getR C dX1_keep_1 f_X1_11 hd.2.2.2.2.2.1 rfl hd.2.2.2.2.2.2.2.2.2.2.2.2.2.2.2.2.2 ?_
  refine zv_aload_n C dX1_keep_4 rfl rfl ?_
  refine zv_getI C dX1_keep_5 f_X1_15 hd.2.2.2.2.2.1 rfl ?_
  refine zv_aaload5 C dX1_keep_8 hd.2.2.2.2.2.2.1 ⟨by omega, by omega⟩ ?_
  rw [hq]
  refine zv_ifnonnull C 28 dX1_keep_9 rfl (fun _ _ => ?_) (fun h => by cases h)
  refine zv_aload_n C dX1_keep_28 rfl rfl ?_
  refine zv_getR C dX1_keep_29 f_X1_11 hd.2.2.2.2.2.1 rfl hd.2.2.2.2.2.2.2.2.2.2.2.2.2.2.2.2.2 ?_
  refine zv_aload_n C dX1_keep_32 rfl rfl ?_
  refine zv_getI C dX1_keep_33 f_X1_15 hd.2.2.2.2.2.1 rfl ?_
  refine zv_aaload5 C dX1_keep_36 hd.2.2.2.2.2.2.1 ⟨by omega, by omega⟩ ?_
  rw [hq]
  refine zv_aload_n C dX1_keep_37 rfl rfl ?_
  refine zv_cVv0_1 C dX1_keep_38 k_X2_copyFrom l_X1_20 hB2.1 rfl ⟨Nat.le_of_ble_eq_true rfl, Nat.le_of_ble_eq_true rfl⟩ ⟨rfl, rfl⟩ ⟨Nat.le_of_ble_eq_true rfl, Nat.le_of_ble_eq_true rfl⟩ rfl rfl ?_
  refine s_X2_copyFrom hB2 hB hK hb (by omega) (fun F1 A1 f1 kk => ?_)
  have e1 : F1 14 1 = FI 14 1 := f1.1 14 1 (by omega)
  have e2 : F1 14 2 = FI 14 2 := f1.1 14 2 (by omega)
  refine zv_aload_n C dX1_keep_41 rfl rfl ?_
  refine zv_aload_n C dX1_keep_42 rfl rfl ?_
  refine zv_getI C dX1_keep_43 f_X1_15 hd.2.2.2.2.2.1 rfl ?_
  rw [e1]
  refine zv_iconst C dX1_keep_46 rfl ?_
  refine zv_iadd C dX1_keep_47 ⟨by omega, by omega⟩ ?_
  refine zv_bipush C dX1_keep_48 rfl ?_
  refine zv_irem C dX1_keep_50 (by omega) (by omega) ?_
  refine zv_putI C dX1_keep_51 f_X1_15 hd.2.2.2.2.2.1 rfl ?_
  refine zv_aload_n C dX1_keep_54 rfl rfl ?_
  refine zv_aload_n C dX1_keep_55 rfl rfl ?_
  refine zv_getI C dX1_keep_56 f_X1_24 hd.2.2.2.2.2.1 rfl ?_
  try simp (disch := omega) only [zsF_eq, zsF_ne]
  try rw [zsF_ne (by decide)]
  rw [e2]
  refine zv_iconst C dX1_keep_59 rfl ?_
  refine zv_iadd C dX1_keep_60 ⟨by omega, by omega⟩ ?_
  refine zv_bipush C dX1_keep_61 rfl ?_
  refine zv_min C dX1_keep_63 l_X1_27 mi_st ini_Math mi_cd (Nat.le_of_ble_eq_true rfl) (Nat.le_of_ble_eq_true rfl) ⟨Nat.le_of_ble_eq_true rfl, Nat.le_of_ble_eq_true rfl⟩ ?_
  refine zv_putI C dX1_keep_66 f_X1_24 hd.2.2.2.2.2.1 rfl ?_
  refine zv_return C dX1_keep_69 rfl rfl rfl ?_
  exact hp F1 A1 f1 kk
