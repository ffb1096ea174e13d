set_option maxRecDepth 20000 in
theorem s_X8_isYearToCome {T : zTt} {FR : zFR} {AR : zAR} {FI : zFI} {AI : zAI} {Post : zPost} {B D : Nat} {N : Int → Int} {nI nL : Nat} {o y : Int} (hd : dLay T FR B D) (hc : cLay T FR) (hB : bLay T FR B) (hK : bk FI AI B N) (hW : mW N nI nL) (gB : 14 ≤ B) (h1 : (0 ≤ o ∧ o ≤ N 2 - 1) ∧ (N 0 + 1 ≤ y ∧ y ≤ 39) → Post (zI 1) T FR AR FI AI) (h0 : ¬ ((0 ≤ o ∧ o ≤ N 2 - 1) ∧ (N 0 + 1 ≤ y ∧ y ≤ 39)) → Post (zI 0) T FR AR FI AI) : zMet M_X8_isYearToCome [zR 0, zI o, zI y] T FR AR FI AI Post := by
  refine zMet.of [some (zR 0), some (zI o), some (zI y)] rfl rfl rfl (fun G C => ?_)
  obtain ⟨k0, k1, k2, k3, k4, k5, k6, k7, k8⟩ := id hK
  obtain ⟨w0, w1, w2, w3, w4, w5, w6, w7, w8, w9⟩ := id hW
  refine zv_aload_n C dX8_isYearToCome_0 rfl rfl ?_
  refine zv_getR C dX8_isYearToCome_1 f_X8_44 hd.1 rfl hd.2.2.2.2.2.2.2.2.2.2.2.2.2.1 ?_
  refine zv_iload_n C dX8_isYearToCome_4 rfl ?_
  refine zv_cVi0_1 C dX8_isYearToCome_5 k_X2_hasOffice l_X8_135 hB.1 rfl ⟨Nat.le_of_ble_eq_true rfl, Nat.le_of_ble_eq_true rfl⟩ ⟨rfl, rfl⟩ ⟨Nat.le_of_ble_eq_true rfl, Nat.le_of_ble_eq_true rfl⟩ rfl rfl ?_
  refine s_X2_hasOffice hB hK (fun b5 => ?_) (fun b5 => ?_)
  · refine zv_if_eq C 32 dX8_isYearToCome_8 rfl (fun h => absurd h (by omega)) (fun _ => ?_)
    refine zv_iload_n C dX8_isYearToCome_11 rfl ?_
    refine zv_aload_n C dX8_isYearToCome_12 rfl rfl ?_
    refine zv_getR C dX8_isYearToCome_13 f_X8_44 hd.1 rfl hd.2.2.2.2.2.2.2.2.2.2.2.2.2.1 ?_
    refine zv_getI C dX8_isYearToCome_16 f_X8_78 hB.1 rfl ?_
    refine zv_icmp_le C 32 dX8_isYearToCome_19 rfl (fun h19 => ?_) (fun h19 => ?_)
    · refine zv_iconst C dX8_isYearToCome_32 rfl ?_
      refine zv_ireturn C dX8_isYearToCome_33 rfl rfl rfl rfl ?_
      exact h0 (by omega)
    · refine zv_iload_n C dX8_isYearToCome_22 rfl ?_
      refine zv_bipush C dX8_isYearToCome_23 rfl ?_
      refine zv_icmp_gt C 32 dX8_isYearToCome_25 rfl (fun h25 => ?_) (fun h25 => ?_)
      · refine zv_iconst C dX8_isYearToCome_32 rfl ?_
        refine zv_ireturn C dX8_isYearToCome_33 rfl rfl rfl rfl ?_
        exact h0 (by omega)
      · refine zv_iconst C dX8_isYearToCome_28 rfl ?_
        refine zv_goto C 33 dX8_isYearToCome_29 rfl ?_
        refine zv_ireturn C dX8_isYearToCome_33 rfl rfl rfl rfl ?_
        exact h1 (by omega)
  · refine zv_if_eq C 32 dX8_isYearToCome_8 rfl (fun _ => ?_) (fun h => absurd h (by omega))
    refine zv_iconst C dX8_isYearToCome_32 rfl ?_
    refine zv_ireturn C dX8_isYearToCome_33 rfl rfl rfl rfl ?_
    exact h0 (by omega)
set_option maxRecDepth 20000 in
theorem s_X8_isYearNotClosed {T : zTt} {FR : zFR} {AR : zAR} {FI : zFI} {AI : zAI} {Post : zPost} {B D : Nat} {N : Int → Int} {nI nL : Nat} {o y : Int} (hd : dLay T FR B D) (hc : cLay T FR) (hB : bLay T FR B) (hK : bk FI AI B N) (hW : mW N nI nL) (gB : 14 ≤ B) (h1 : (0 ≤ o ∧ o ≤ N 2 - 1) ∧ (N 0 ≤ y ∧ y ≤ 39) → Post (zI 1) T FR AR FI AI) (h0 : ¬ ((0 ≤ o ∧ o ≤ N 2 - 1) ∧ (N 0 ≤ y ∧ y ≤ 39)) → Post (zI 0) T FR AR FI AI) : zMet M_X8_isYearNotClosed [zR 0, zI o, zI y] T FR AR FI AI Post := by
  refine zMet.of [some (zR 0), some (zI o), some (zI y)] rfl rfl rfl (fun G C => ?_)
  obtain ⟨k0, k1, k2, k3, k4, k5, k6, k7, k8⟩ := id hK
  obtain ⟨w0, w1, w2, w3, w4, w5, w6, w7, w8, w9⟩ := id hW
  refine zv_aload_n C dX8_isYearNotClosed_0 rfl rfl ?_
  refine zv_getR C dX8_isYearNotClosed_1 f_X8_44 hd.1 rfl hd.2.2.2.2.2.2.2.2.2.2.2.2.2.1 ?_
  refine zv_iload_n C dX8_isYearNotClosed_4 rfl ?_
  refine zv_cVi0_1 C dX8_isYearNotClosed_5 k_X2_hasOffice l_X8_135 hB.1 rfl ⟨Nat.le_of_ble_eq_true rfl, Nat.le_of_ble_eq_true rfl⟩ ⟨rfl, rfl⟩ ⟨Nat.le_of_ble_eq_true rfl, Nat.le_of_ble_eq_true rfl⟩ rfl rfl ?_
  refine s_X2_hasOffice hB hK (fun b5 => ?_) (fun b5 => ?_)
  · refine zv_if_eq C 32 dX8_isYearNotClosed_8 rfl (fun h => absurd h (by omega)) (fun _ => ?_)
    refine zv_iload_n C dX8_isYearNotClosed_11 rfl ?_
    refine zv_aload_n C dX8_isYearNotClosed_12 rfl rfl ?_
    refine zv_getR C dX8_isYearNotClosed_13 f_X8_44 hd.1 rfl hd.2.2.2.2.2.2.2.2.2.2.2.2.2.1 ?_
    refine zv_getI C dX8_isYearNotClosed_16 f_X8_78 hB.1 rfl ?_
    refine zv_icmp_lt C 32 dX8_isYearNotClosed_19 rfl (fun h19 => ?_) (fun h19 => ?_)
    · refine zv_iconst C dX8_isYearNotClosed_32 rfl ?_
      refine zv_ireturn C dX8_isYearNotClosed_33 rfl rfl rfl rfl ?_
      exact h0 (by omega)
    · refine zv_iload_n C dX8_isYearNotClosed_22 rfl ?_
      refine zv_bipush C dX8_isYearNotClosed_23 rfl ?_
      refine zv_icmp_gt C 32 dX8_isYearNotClosed_25 rfl (fun h25 => ?_) (fun h25 => ?_)
      · refine zv_iconst C dX8_isYearNotClosed_32 rfl ?_
        refine zv_ireturn C dX8_isYearNotClosed_33 rfl rfl rfl rfl ?_
        exact h0 (by omega)
      · refine zv_iconst C dX8_isYearNotClosed_28 rfl ?_
        refine zv_goto C 33 dX8_isYearNotClosed_29 rfl ?_
        refine zv_ireturn C dX8_isYearNotClosed_33 rfl rfl rfl rfl ?_
        exact h1 (by omega)
  · refine zv_if_eq C 32 dX8_isYearNotClosed_8 rfl (fun _ => ?_) (fun h => absurd h (by omega))
    refine zv_iconst C dX8_isYearNotClosed_32 rfl ?_
    refine zv_ireturn C dX8_isYearNotClosed_33 rfl rfl rfl rfl ?_
    exact h0 (by omega)
set_option maxRecDepth 20000 in
theorem s_X8_mayBeEnacted {T : zTt} {FR : zFR} {AR : zAR} {FI : zFI} {AI : zAI} {Post : zPost} {B D : Nat} {N : Int → Int} {nI nL : Nat} {o y r : Int} (hd : dLay T FR B D) (hc : cLay T FR) (hB : bLay T FR B) (hK : bk FI AI B N) (hW : mW N nI nL) (gB : 14 ≤ B) (h1 : okEn N o y r → Post (zI 1) T FR AR FI AI) (h0 : ¬ (okEn N o y r) → Post (zI 0) T FR AR FI AI) : zMet M_X8_mayBeEnacted [zR 0, zI o, zI y, zI r] T FR AR FI AI Post := by
  refine zMet.of [some (zR 0), some (zI o), some (zI y), some (zI r)] rfl rfl rfl (fun G C => ?_)
  obtain ⟨k0, k1, k2, k3, k4, k5, k6, k7, k8⟩ := id hK
  obtain ⟨w0, w1, w2, w3, w4, w5, w6, w7, w8, w9⟩ := id hW
  refine zv_aload_n C dX8_mayBeEnacted_0 rfl rfl ?_
  refine zv_iload_n C dX8_mayBeEnacted_1 rfl ?_
  refine zv_iload_n C dX8_mayBeEnacted_2 rfl ?_
  refine zv_cVi0_2 C dX8_mayBeEnacted_3 k_X8_isYearNotClosed l_X8_202 hd.1 rfl ⟨Nat.le_of_ble_eq_true rfl, Nat.le_of_ble_eq_true rfl⟩ ⟨rfl, rfl⟩ ⟨Nat.le_of_ble_eq_true rfl, Nat.le_of_ble_eq_true rfl⟩ rfl rfl ?_
  refine s_X8_isYearNotClosed hd hc hB hK hW gB (fun b3 => ?_) (fun b3 => ?_)
  · refine zv_if_eq C 24 dX8_mayBeEnacted_6 rfl (fun h => absurd h (by omega)) (fun _ => ?_)
    refine zv_iload_n C dX8_mayBeEnacted_9 rfl ?_
    refine zv_if_lt C 24 dX8_mayBeEnacted_10 rfl (fun h10 => ?_) (fun h10 => ?_)
    · refine zv_iconst C dX8_mayBeEnacted_24 rfl ?_
      refine zv_ireturn C dX8_mayBeEnacted_25 rfl rfl rfl rfl ?_
      exact h0 (by unfold okEn; omega)
    · refine zv_iload_n C dX8_mayBeEnacted_13 rfl ?_
      refine zv_sipush C dX8_mayBeEnacted_14 rfl ?_
      refine zv_icmp_gt C 24 dX8_mayBeEnacted_17 rfl (fun h17 => ?_) (fun h17 => ?_)
      · refine zv_iconst C dX8_mayBeEnacted_24 rfl ?_
        refine zv_ireturn C dX8_mayBeEnacted_25 rfl rfl rfl rfl ?_
        exact h0 (by unfold okEn; omega)
      · refine zv_iconst C dX8_mayBeEnacted_20 rfl ?_
        refine zv_goto C 25 dX8_mayBeEnacted_21 rfl ?_
        refine zv_ireturn C dX8_mayBeEnacted_25 rfl rfl rfl rfl ?_
        exact h1 ⟨⟨by omega, by omega⟩, ⟨by omega, by omega⟩, by omega, by omega⟩
  · refine zv_if_eq C 24 dX8_mayBeEnacted_6 rfl (fun _ => ?_) (fun h => absurd h (by omega))
    refine zv_iconst C dX8_mayBeEnacted_24 rfl ?_
    refine zv_ireturn C dX8_mayBeEnacted_25 rfl rfl rfl rfl ?_
    exact h0 (by unfold okEn; omega)
set_option maxRecDepth 20000 in
theorem s_X8_isSum {T : zTt} {FR : zFR} {AR : zAR} {FI : zFI} {AI : zAI} {Post : zPost} {s : Int}  (h1 : 1 ≤ s ∧ s ≤ 99999 → Post (zI 1) T FR AR FI AI) (h0 : ¬ (1 ≤ s ∧ s ≤ 99999) → Post (zI 0) T FR AR FI AI) : zMet M_X8_isSum [zI s] T FR AR FI AI Post := by
  refine zMet.of [some (zI s)] rfl rfl rfl (fun G C => ?_)
  refine zv_iload_n C dX8_isSum_0 rfl ?_
  refine zv_iconst C dX8_isSum_1 rfl ?_
  refine zv_icmp_lt C 15 dX8_isSum_2 rfl (fun h2 => ?_) (fun h2 => ?_)
  · refine zv_iconst C dX8_isSum_15 rfl ?_
    refine zv_ireturn C dX8_isSum_16 rfl rfl rfl rfl ?_
    exact h0 (by omega)
  · refine zv_iload_n C dX8_isSum_5 rfl ?_
    refine zv_ldc (x := 99999) C dX8_isSum_6 c_X8_205 rfl ?_
    refine zv_icmp_gt C 15 dX8_isSum_8 rfl (fun h8 => ?_) (fun h8 => ?_)
    · refine zv_iconst C dX8_isSum_15 rfl ?_
      refine zv_ireturn C dX8_isSum_16 rfl rfl rfl rfl ?_
      exact h0 (by omega)
    · refine zv_iconst C dX8_isSum_11 rfl ?_
      refine zv_goto C 16 dX8_isSum_12 rfl ?_
      refine zv_ireturn C dX8_isSum_16 rfl rfl rfl rfl ?_
      exact h1 (by omega)
set_option maxRecDepth 20000 in
theorem s_X8_now {T : zTt} {FR : zFR} {AR : zAR} {FI : zFI} {AI : zAI} {Post : zPost} {B D : Nat} {N : Int → Int} {nI nL : Nat} {what : Int} (hd : dLay T FR B D) (hc : cLay T FR) (hB : bLay T FR B) (hK : bk FI AI B N) (hW : mW N nI nL) (gB : 14 ≤ B) (hp : Post (zI (aNow N nI (FI 14 2) (FI 1 1) what)) T FR AR FI AI) : zMet M_X8_now [zR 0, zI what] T FR AR FI AI Post := by
  refine zMet.of [some (zR 0), some (zI what)] rfl rfl rfl (fun G C => ?_)
  obtain ⟨k0, k1, k2, k3, k4, k5, k6, k7, k8⟩ := id hK
  obtain ⟨w0, w1, w2, w3, w4, w5, w6, w7, w8, w9⟩ := id hW
  refine zv_iload_n C dX8_now_0 rfl ?_
  by_cases h1r : 0 ≤ what ∧ what ≤ 7
  · have h1s : what = 0 ∨ what = 1 ∨ what = 2 ∨ what = 3 ∨ what = 4 ∨ what = 5 ∨ what = 6 ∨ what = 7 := by omega
    rcases h1s with h1e | h1e | h1e | h1e | h1e | h1e | h1e | h1e
    · refine zv_tableIn C 48 dX8_now_1 (by omega) (by omega) (by rw [h1e]; rfl) rfl ?_
      refine zv_aload_n C dX8_now_48 rfl rfl ?_
      refine zv_getR C dX8_now_49 f_X8_44 hd.1 rfl hd.2.2.2.2.2.2.2.2.2.2.2.2.2.1 ?_
      refine zv_getI C dX8_now_52 f_X8_78 hB.1 rfl ?_
      refine zv_ireturn C dX8_now_55 rfl rfl rfl rfl ?_
      refine zpost ?_ hp
      unfold aNow
      first
      | (rw [if_pos (by omega), h1e]; omega)
      | (rw [if_neg (by omega), if_pos (by omega)])
      | (rw [if_neg (by omega), if_neg (by omega), if_pos (by omega)])
      | (rw [if_neg (by omega), if_neg (by omega), if_neg (by omega), if_pos (by omega)])
      | (rw [if_neg (by omega), if_neg (by omega), if_neg (by omega), if_neg (by omega)])
    · refine zv_tableIn C 56 dX8_now_1 (by omega) (by omega) (by rw [h1e]; rfl) rfl ?_
      refine zv_aload_n C dX8_now_56 rfl rfl ?_
      refine zv_getR C dX8_now_57 f_X8_44 hd.1 rfl hd.2.2.2.2.2.2.2.2.2.2.2.2.2.1 ?_
      refine zv_getI C dX8_now_60 f_X8_81 hB.1 rfl ?_
      refine zv_ireturn C dX8_now_63 rfl rfl rfl rfl ?_
      refine zpost ?_ hp
      unfold aNow
      first
      | (rw [if_pos (by omega), h1e]; omega)
      | (rw [if_neg (by omega), if_pos (by omega)])
      | (rw [if_neg (by omega), if_neg (by omega), if_pos (by omega)])
      | (rw [if_neg (by omega), if_neg (by omega), if_neg (by omega), if_pos (by omega)])
      | (rw [if_neg (by omega), if_neg (by omega), if_neg (by omega), if_neg (by omega)])
    · refine zv_tableIn C 64 dX8_now_1 (by omega) (by omega) (by rw [h1e]; rfl) rfl ?_
      refine zv_aload_n C dX8_now_64 rfl rfl ?_
      refine zv_getR C dX8_now_65 f_X8_44 hd.1 rfl hd.2.2.2.2.2.2.2.2.2.2.2.2.2.1 ?_
      refine zv_getI C dX8_now_68 f_X8_84 hB.1 rfl ?_
      refine zv_ireturn C dX8_now_71 rfl rfl rfl rfl ?_
      refine zpost ?_ hp
      unfold aNow
      first
      | (rw [if_pos (by omega), h1e]; omega)
      | (rw [if_neg (by omega), if_pos (by omega)])
      | (rw [if_neg (by omega), if_neg (by omega), if_pos (by omega)])
      | (rw [if_neg (by omega), if_neg (by omega), if_neg (by omega), if_pos (by omega)])
      | (rw [if_neg (by omega), if_neg (by omega), if_neg (by omega), if_neg (by omega)])
    · refine zv_tableIn C 72 dX8_now_1 (by omega) (by omega) (by rw [h1e]; rfl) rfl ?_
      refine zv_aload_n C dX8_now_72 rfl rfl ?_
      refine zv_getR C dX8_now_73 f_X8_44 hd.1 rfl hd.2.2.2.2.2.2.2.2.2.2.2.2.2.1 ?_
      refine zv_getI C dX8_now_76 f_X8_87 hB.1 rfl ?_
      refine zv_ireturn C dX8_now_79 rfl rfl rfl rfl ?_
      refine zpost ?_ hp
      unfold aNow
      first
      | (rw [if_pos (by omega), h1e]; omega)
      | (rw [if_neg (by omega), if_pos (by omega)])
      | (rw [if_neg (by omega), if_neg (by omega), if_pos (by omega)])
      | (rw [if_neg (by omega), if_neg (by omega), if_neg (by omega), if_pos (by omega)])
      | (rw [if_neg (by omega), if_neg (by omega), if_neg (by omega), if_neg (by omega)])
    · refine zv_tableIn C 80 dX8_now_1 (by omega) (by omega) (by rw [h1e]; rfl) rfl ?_
      refine zv_aload_n C dX8_now_80 rfl rfl ?_
      refine zv_getR C dX8_now_81 f_X8_44 hd.1 rfl hd.2.2.2.2.2.2.2.2.2.2.2.2.2.1 ?_
      refine zv_getI C dX8_now_84 f_X8_90 hB.1 rfl ?_
      refine zv_ireturn C dX8_now_87 rfl rfl rfl rfl ?_
      refine zpost ?_ hp
      unfold aNow
      first
      | (rw [if_pos (by omega), h1e]; omega)
      | (rw [if_neg (by omega), if_pos (by omega)])
      | (rw [if_neg (by omega), if_neg (by omega), if_pos (by omega)])
      | (rw [if_neg (by omega), if_neg (by omega), if_neg (by omega), if_pos (by omega)])
      | (rw [if_neg (by omega), if_neg (by omega), if_neg (by omega), if_neg (by omega)])
    · refine zv_tableIn C 88 dX8_now_1 (by omega) (by omega) (by rw [h1e]; rfl) rfl ?_
      refine zv_aload_n C dX8_now_88 rfl rfl ?_
      refine zv_getR C dX8_now_89 f_X8_44 hd.1 rfl hd.2.2.2.2.2.2.2.2.2.2.2.2.2.1 ?_
      refine zv_cVi0_0 C dX8_now_92 k_X2_itemsWithNothingOpen l_X8_93 hB.1 rfl ⟨Nat.le_of_ble_eq_true rfl, Nat.le_of_ble_eq_true rfl⟩ ⟨rfl, rfl⟩ ⟨Nat.le_of_ble_eq_true rfl, Nat.le_of_ble_eq_true rfl⟩ rfl rfl ?_
      refine s_X2_itemsWithNothingOpen hB hK hW ?_
      refine zv_ireturn C dX8_now_95 rfl rfl rfl rfl ?_
      refine zpost ?_ hp
      unfold aNow
      first
      | (rw [if_pos (by omega), h1e]; omega)
      | (rw [if_neg (by omega), if_pos (by omega)])
      | (rw [if_neg (by omega), if_neg (by omega), if_pos (by omega)])
      | (rw [if_neg (by omega), if_neg (by omega), if_neg (by omega), if_pos (by omega)])
      | (rw [if_neg (by omega), if_neg (by omega), if_neg (by omega), if_neg (by omega)])
    · refine zv_tableIn C 96 dX8_now_1 (by omega) (by omega) (by rw [h1e]; rfl) rfl ?_
      refine zv_aload_n C dX8_now_96 rfl rfl ?_
      refine zv_getR C dX8_now_97 f_X8_31 hd.1 rfl hd.2.2.2.2.2.2.2.2.2.2.2.1 ?_
      refine zv_getI C dX8_now_100 f_X8_97 hd.2.2.2.2.2.1 rfl ?_
      refine zv_ireturn C dX8_now_103 rfl rfl rfl rfl ?_
      refine zpost ?_ hp
      unfold aNow
      first
      | (rw [if_pos (by omega), h1e]; omega)
      | (rw [if_neg (by omega), if_pos (by omega)])
      | (rw [if_neg (by omega), if_neg (by omega), if_pos (by omega)])
      | (rw [if_neg (by omega), if_neg (by omega), if_neg (by omega), if_pos (by omega)])
      | (rw [if_neg (by omega), if_neg (by omega), if_neg (by omega), if_neg (by omega)])
    · refine zv_tableIn C 104 dX8_now_1 (by omega) (by omega) (by rw [h1e]; rfl) rfl ?_
      refine zv_aload_n C dX8_now_104 rfl rfl ?_
      refine zv_getR C dX8_now_105 f_X8_20 hd.1 rfl hd.2.2.2.2.2.2.2.2.1 ?_
      refine zv_getI C dX8_now_108 f_X8_48 hd.2.1 rfl ?_
      refine zv_ireturn C dX8_now_111 rfl rfl rfl rfl ?_
      refine zpost ?_ hp
      unfold aNow
      first
      | (rw [if_pos (by omega), h1e]; omega)
      | (rw [if_neg (by omega), if_pos (by omega)])
      | (rw [if_neg (by omega), if_neg (by omega), if_pos (by omega)])
      | (rw [if_neg (by omega), if_neg (by omega), if_neg (by omega), if_pos (by omega)])
      | (rw [if_neg (by omega), if_neg (by omega), if_neg (by omega), if_neg (by omega)])
  · refine zv_tableOut C 112 dX8_now_1 (by omega) rfl ?_
    refine zv_iconst C dX8_now_112 rfl ?_
    refine zv_ireturn C dX8_now_113 rfl rfl rfl rfl ?_
    refine zpost ?_ hp
    unfold aNow
    first
    | (rw [if_pos (by omega), h1e]; omega)
    | (rw [if_neg (by omega), if_pos (by omega)])
    | (rw [if_neg (by omega), if_neg (by omega), if_pos (by omega)])
    | (rw [if_neg (by omega), if_neg (by omega), if_neg (by omega), if_pos (by omega)])
    | (rw [if_neg (by omega), if_neg (by omega), if_neg (by omega), if_neg (by omega)])
set_option maxRecDepth 20000 in
theorem s_X8_rate {T : zTt} {FR : zFR} {AR : zAR} {FI : zFI} {AI : zAI} {Post : zPost} {B D : Nat} {N : Int → Int} {nI nL : Nat} {o y : Int} (hd : dLay T FR B D) (hc : cLay T FR) (hB : bLay T FR B) (hK : bk FI AI B N) (hW : mW N nI nL) (gB : 14 ≤ B) (hp : Post (zI (aRate N o y)) T FR AR FI AI) : zMet M_X8_rate [zR 0, zI o, zI y] T FR AR FI AI Post := by
  refine zMet.of [some (zR 0), some (zI o), some (zI y)] rfl rfl rfl (fun G C => ?_)
  obtain ⟨k0, k1, k2, k3, k4, k5, k6, k7, k8⟩ := id hK
  obtain ⟨w0, w1, w2, w3, w4, w5, w6, w7, w8, w9⟩ := id hW
  refine zv_aload_n C dX8_rate_0 rfl rfl ?_
  refine zv_getR C dX8_rate_1 f_X8_44 hd.1 rfl hd.2.2.2.2.2.2.2.2.2.2.2.2.2.1 ?_
  refine zv_iload_n C dX8_rate_4 rfl ?_
  refine zv_cVi0_1 C dX8_rate_5 k_X2_hasOffice l_X8_135 hB.1 rfl ⟨Nat.le_of_ble_eq_true rfl, Nat.le_of_ble_eq_true rfl⟩ ⟨rfl, rfl⟩ ⟨Nat.le_of_ble_eq_true rfl, Nat.le_of_ble_eq_true rfl⟩ rfl rfl ?_
  refine s_X2_hasOffice hB hK (fun b5 => ?_) (fun b5 => ?_)
  · refine zv_if_eq C 21 dX8_rate_8 rfl (fun h => absurd h (by omega)) (fun _ => ?_)
    refine zv_iload_n C dX8_rate_11 rfl ?_
    refine zv_if_lt C 21 dX8_rate_12 rfl (fun h12 => ?_) (fun h12 => ?_)
    · refine zv_iconst C dX8_rate_21 rfl ?_
      refine zv_ireturn C dX8_rate_22 rfl rfl rfl rfl ?_
      refine zpost ?_ hp
      unfold aRate
      first | rw [if_pos ⟨⟨by omega, by omega⟩, by omega, by omega⟩] | rw [if_neg (by omega)]
    · refine zv_iload_n C dX8_rate_15 rfl ?_
      refine zv_bipush C dX8_rate_16 rfl ?_
      refine zv_icmp_le C 23 dX8_rate_18 rfl (fun h18 => ?_) (fun h18 => ?_)
      · refine zv_aload_n C dX8_rate_23 rfl rfl ?_
        refine zv_getR C dX8_rate_24 f_X8_44 hd.1 rfl hd.2.2.2.2.2.2.2.2.2.2.2.2.2.1 ?_
        refine zv_getR C dX8_rate_27 f_X8_138 hB.1 rfl hB.2.2.2.2.2.1 ?_
        refine zv_iload_n C dX8_rate_30 rfl ?_
        refine zv_bipush C dX8_rate_31 rfl ?_
        refine zv_imul C dX8_rate_33 ⟨by omega, by omega⟩ ?_
        refine zv_iload_n C dX8_rate_34 rfl ?_
        refine zv_iadd C dX8_rate_35 ⟨by omega, by omega⟩ ?_
        refine zv_iaload C dX8_rate_36 hB.2.1 ⟨by omega, by omega⟩ ?_
        rw [k5 o y (by omega) (by omega) (by omega) (by omega)]
        refine zv_ireturn C dX8_rate_37 rfl rfl rfl rfl ?_
        refine zpost ?_ hp
        unfold aRate
        first | rw [if_pos ⟨⟨by omega, by omega⟩, by omega, by omega⟩] | rw [if_neg (by omega)]
      · refine zv_iconst C dX8_rate_21 rfl ?_
        refine zv_ireturn C dX8_rate_22 rfl rfl rfl rfl ?_
        refine zpost ?_ hp
        unfold aRate
        first | rw [if_pos ⟨⟨by omega, by omega⟩, by omega, by omega⟩] | rw [if_neg (by omega)]
  · refine zv_if_eq C 21 dX8_rate_8 rfl (fun _ => ?_) (fun h => absurd h (by omega))
    refine zv_iconst C dX8_rate_21 rfl ?_
    refine zv_ireturn C dX8_rate_22 rfl rfl rfl rfl ?_
    refine zpost ?_ hp
    unfold aRate
    first | rw [if_pos ⟨⟨by omega, by omega⟩, by omega, by omega⟩] | rw [if_neg (by omega)]
set_option maxRecDepth 20000 in
theorem s_X8_covered {T : zTt} {FR : zFR} {AR : zAR} {FI : zFI} {AI : zAI} {Post : zPost} {B D : Nat} {N : Int → Int} {nI nL : Nat} {o y what : Int} (hd : dLay T FR B D) (hc : cLay T FR) (hB : bLay T FR B) (hK : bk FI AI B N) (hW : mW N nI nL) (gB : 14 ≤ B) (hp : ∀ (F : zFI) (A : zAI), cFr AI A FI F → Post (zI (aCov N nI nL o y what)) T FR AR F A) : zMet M_X8_covered [zR 0, zI o, zI y, zI what] T FR AR FI AI Post := by
  refine zMet.of [some (zR 0), some (zI o), some (zI y), some (zI what)] rfl rfl rfl (fun G C => ?_)
  obtain ⟨k0, k1, k2, k3, k4, k5, k6, k7, k8⟩ := id hK
  obtain ⟨w0, w1, w2, w3, w4, w5, w6, w7, w8, w9⟩ := id hW
  refine zv_aload_n C dX8_covered_0 rfl rfl ?_
  refine zv_iload_n C dX8_covered_1 rfl ?_
  refine zv_iload_n C dX8_covered_2 rfl ?_
  refine zv_cVi0_2 C dX8_covered_3 k_X8_isYearToCome l_X8_141 hd.1 rfl ⟨Nat.le_of_ble_eq_true rfl, Nat.le_of_ble_eq_true rfl⟩ ⟨rfl, rfl⟩ ⟨Nat.le_of_ble_eq_true rfl, Nat.le_of_ble_eq_true rfl⟩ rfl rfl ?_
  refine s_X8_isYearToCome hd hc hB hK hW gB (fun b3 => ?_) (fun b3 => ?_)
  · refine zv_if_ne C 11 dX8_covered_6 rfl (fun _ => ?_) (fun h => absurd h (by omega))
    refine zv_aload_n C dX8_covered_11 rfl rfl ?_
    refine zv_getR C dX8_covered_12 f_X8_24 hd.1 rfl hd.2.2.2.2.2.2.2.2.2.2.1 ?_
    refine zv_aload_n C dX8_covered_15 rfl rfl ?_
    refine zv_getR C dX8_covered_16 f_X8_44 hd.1 rfl hd.2.2.2.2.2.2.2.2.2.2.2.2.2.1 ?_
    refine zv_iload_n C dX8_covered_19 rfl ?_
    refine zv_cVv0_2 C dX8_covered_20 k_X4_workOut l_X8_145 hc.1 rfl ⟨Nat.le_of_ble_eq_true rfl, Nat.le_of_ble_eq_true rfl⟩ ⟨rfl, rfl⟩ ⟨Nat.le_of_ble_eq_true rfl, Nat.le_of_ble_eq_true rfl⟩ rfl rfl ?_
    refine s_X4_workOut hc hB hK hW gB (by omega) (by omega) (fun F1 A1 hv fr => ?_)
    refine zv_iload_n C dX8_covered_23 rfl ?_
    by_cases h24r : 0 ≤ what ∧ what ≤ 5
    · have h24s : what = 0 ∨ what = 1 ∨ what = 2 ∨ what = 3 ∨ what = 4 ∨ what = 5 := by omega
      rcases h24s with h24e | h24e | h24e | h24e | h24e | h24e
      · refine zv_tableIn C 64 dX8_covered_24 (by omega) (by omega) (by rw [h24e]; rfl) rfl ?_
        refine zv_aload_n C dX8_covered_64 rfl rfl ?_
        refine zv_getR C dX8_covered_65 f_X8_24 hd.1 rfl hd.2.2.2.2.2.2.2.2.2.2.1 ?_
        refine zv_getR C dX8_covered_68 f_X8_149 hc.1 rfl hc.2.2.2.2.2.2.2.2.2.1 ?_
        refine zv_iload_n C dX8_covered_71 rfl ?_
        refine zv_iaload C dX8_covered_72 hc.2.1 ⟨by omega, by omega⟩ ?_
        rw [(hv.1 y (by omega) (by omega)).1, if_pos (by omega)]
        refine zv_ireturn C dX8_covered_73 rfl rfl rfl rfl ?_
        first
        | (refine zpost ?_ (hp FI AI cFr.rfl)
           unfold aCov
           rw [if_neg (by omega)])
        | (refine zpost ?_ (hp F1 A1 fr)
           unfold aCov
           rw [if_neg (by omega)])
        | (refine zpost ?_ (hp F1 A1 fr)
           unfold aCov
           rw [if_pos ⟨⟨by omega, by omega⟩, ⟨by omega, by omega⟩, by omega, by omega⟩]
           repeat (first | rw [if_pos (by omega)] | rw [if_neg (by omega)])
           try (unfold mU; omega))
      · refine zv_tableIn C 74 dX8_covered_24 (by omega) (by omega) (by rw [h24e]; rfl) rfl ?_
        refine zv_aload_n C dX8_covered_74 rfl rfl ?_
        refine zv_getR C dX8_covered_75 f_X8_24 hd.1 rfl hd.2.2.2.2.2.2.2.2.2.2.1 ?_
        refine zv_getR C dX8_covered_78 f_X8_152 hc.1 rfl hc.2.2.2.2.2.2.2.2.2.2.1 ?_
        refine zv_iload_n C dX8_covered_81 rfl ?_
        refine zv_iaload C dX8_covered_82 hc.2.2.1 ⟨by omega, by omega⟩ ?_
        rw [(hv.2.1 y (by omega) (by omega)).1]
        refine zv_ireturn C dX8_covered_83 rfl rfl rfl rfl ?_
        first
        | (refine zpost ?_ (hp FI AI cFr.rfl)
           unfold aCov
           rw [if_neg (by omega)])
        | (refine zpost ?_ (hp F1 A1 fr)
           unfold aCov
           rw [if_neg (by omega)])
        | (refine zpost ?_ (hp F1 A1 fr)
           unfold aCov
           rw [if_pos ⟨⟨by omega, by omega⟩, ⟨by omega, by omega⟩, by omega, by omega⟩]
           repeat (first | rw [if_pos (by omega)] | rw [if_neg (by omega)])
           try (unfold mU; omega))
      · refine zv_tableIn C 84 dX8_covered_24 (by omega) (by omega) (by rw [h24e]; rfl) rfl ?_
        refine zv_aload_n C dX8_covered_84 rfl rfl ?_
        refine zv_getR C dX8_covered_85 f_X8_24 hd.1 rfl hd.2.2.2.2.2.2.2.2.2.2.1 ?_
        refine zv_getR C dX8_covered_88 f_X8_155 hc.1 rfl hc.2.2.2.2.2.2.2.2.2.2.2.1 ?_
        refine zv_iload_n C dX8_covered_91 rfl ?_
        refine zv_iaload C dX8_covered_92 hc.2.2.2.1 ⟨by omega, by omega⟩ ?_
        rw [(hv.1 y (by omega) (by omega)).2.1, if_pos (by omega)]
        refine zv_ireturn C dX8_covered_93 rfl rfl rfl rfl ?_
        first
        | (refine zpost ?_ (hp FI AI cFr.rfl)
           unfold aCov
           rw [if_neg (by omega)])
        | (refine zpost ?_ (hp F1 A1 fr)
           unfold aCov
           rw [if_neg (by omega)])
        | (refine zpost ?_ (hp F1 A1 fr)
           unfold aCov
           rw [if_pos ⟨⟨by omega, by omega⟩, ⟨by omega, by omega⟩, by omega, by omega⟩]
           repeat (first | rw [if_pos (by omega)] | rw [if_neg (by omega)])
           try (unfold mU; omega))
      · refine zv_tableIn C 94 dX8_covered_24 (by omega) (by omega) (by rw [h24e]; rfl) rfl ?_
        refine zv_aload_n C dX8_covered_94 rfl rfl ?_
        refine zv_getR C dX8_covered_95 f_X8_24 hd.1 rfl hd.2.2.2.2.2.2.2.2.2.2.1 ?_
        refine zv_getR C dX8_covered_98 f_X8_158 hc.1 rfl hc.2.2.2.2.2.2.2.2.2.2.2.2.1 ?_
        refine zv_iload_n C dX8_covered_101 rfl ?_
        refine zv_iaload C dX8_covered_102 hc.2.2.2.2.1 ⟨by omega, by omega⟩ ?_
        rw [(hv.2.1 y (by omega) (by omega)).2.1]
        refine zv_ireturn C dX8_covered_103 rfl rfl rfl rfl ?_
        first
        | (refine zpost ?_ (hp FI AI cFr.rfl)
           unfold aCov
           rw [if_neg (by omega)])
        | (refine zpost ?_ (hp F1 A1 fr)
           unfold aCov
           rw [if_neg (by omega)])
        | (refine zpost ?_ (hp F1 A1 fr)
           unfold aCov
           rw [if_pos ⟨⟨by omega, by omega⟩, ⟨by omega, by omega⟩, by omega, by omega⟩]
           repeat (first | rw [if_pos (by omega)] | rw [if_neg (by omega)])
           try (unfold mU; omega))
      · refine zv_tableIn C 104 dX8_covered_24 (by omega) (by omega) (by rw [h24e]; rfl) rfl ?_
        refine zv_aload_n C dX8_covered_104 rfl rfl ?_
        refine zv_getR C dX8_covered_105 f_X8_24 hd.1 rfl hd.2.2.2.2.2.2.2.2.2.2.1 ?_
        refine zv_getR C dX8_covered_108 f_X8_161 hc.1 rfl hc.2.2.2.2.2.2.2.2.2.2.2.2.2.1 ?_
        refine zv_iload_n C dX8_covered_111 rfl ?_
        refine zv_iaload C dX8_covered_112 hc.2.2.2.2.2.1 ⟨by omega, by omega⟩ ?_
        rw [(hv.2.1 y (by omega) (by omega)).2.2.1]
        refine zv_aload_n C dX8_covered_113 rfl rfl ?_
        refine zv_getR C dX8_covered_114 f_X8_24 hd.1 rfl hd.2.2.2.2.2.2.2.2.2.2.1 ?_
        refine zv_getR C dX8_covered_117 f_X8_158 hc.1 rfl hc.2.2.2.2.2.2.2.2.2.2.2.2.1 ?_
        refine zv_iload_n C dX8_covered_120 rfl ?_
        refine zv_iaload C dX8_covered_121 hc.2.2.2.2.1 ⟨by omega, by omega⟩ ?_
        rw [(hv.2.1 y (by omega) (by omega)).2.1]
        have ub := mU_b hW (yr := -1) (more := 0) (r := (y - (N 0 + 1)).toNat) (o := o) (by omega) (by omega) (by omega) (by omega) (by omega)
        have cb := mCov_b hW (yr := -1) (more := 0) (t := y) (o := o) (by omega) (by omega) (by omega) (by omega) (by omega) (by omega)
        have db := mDed_b hW o y
        rw [show N 0 + 1 + ((y - (N 0 + 1)).toNat : Int) = y by omega] at ub
        refine zv_isub C dX8_covered_122 ⟨by omega, by omega⟩ ?_
        refine zv_ireturn C dX8_covered_123 rfl rfl rfl rfl ?_
        first
        | (refine zpost ?_ (hp FI AI cFr.rfl)
           unfold aCov
           rw [if_neg (by omega)])
        | (refine zpost ?_ (hp F1 A1 fr)
           unfold aCov
           rw [if_neg (by omega)])
        | (refine zpost ?_ (hp F1 A1 fr)
           unfold aCov
           rw [if_pos ⟨⟨by omega, by omega⟩, ⟨by omega, by omega⟩, by omega, by omega⟩]
           repeat (first | rw [if_pos (by omega)] | rw [if_neg (by omega)])
           try (unfold mU; omega))
      · refine zv_tableIn C 124 dX8_covered_24 (by omega) (by omega) (by rw [h24e]; rfl) rfl ?_
        refine zv_aload_n C dX8_covered_124 rfl rfl ?_
        refine zv_getR C dX8_covered_125 f_X8_24 hd.1 rfl hd.2.2.2.2.2.2.2.2.2.2.1 ?_
        refine zv_getR C dX8_covered_128 f_X8_164 hc.1 rfl hc.2.2.2.2.2.2.2.2.2.2.2.2.2.2.1 ?_
        refine zv_iload_n C dX8_covered_131 rfl ?_
        refine zv_iaload C dX8_covered_132 hc.2.2.2.2.2.2.1 ⟨by omega, by omega⟩ ?_
        rw [(hv.2.1 y (by omega) (by omega)).2.2.2]
        refine zv_ireturn C dX8_covered_133 rfl rfl rfl rfl ?_
        first
        | (refine zpost ?_ (hp FI AI cFr.rfl)
           unfold aCov
           rw [if_neg (by omega)])
        | (refine zpost ?_ (hp F1 A1 fr)
           unfold aCov
           rw [if_neg (by omega)])
        | (refine zpost ?_ (hp F1 A1 fr)
           unfold aCov
           rw [if_pos ⟨⟨by omega, by omega⟩, ⟨by omega, by omega⟩, by omega, by omega⟩]
           repeat (first | rw [if_pos (by omega)] | rw [if_neg (by omega)])
           try (unfold mU; omega))
    · refine zv_tableOut C 134 dX8_covered_24 (by omega) rfl ?_
      refine zv_iconst C dX8_covered_134 rfl ?_
      refine zv_ireturn C dX8_covered_135 rfl rfl rfl rfl ?_
      first
      | (refine zpost ?_ (hp FI AI cFr.rfl)
         unfold aCov
         rw [if_neg (by omega)])
      | (refine zpost ?_ (hp F1 A1 fr)
         unfold aCov
         rw [if_neg (by omega)])
      | (refine zpost ?_ (hp F1 A1 fr)
         unfold aCov
         rw [if_pos ⟨⟨by omega, by omega⟩, ⟨by omega, by omega⟩, by omega, by omega⟩]
         repeat (first | rw [if_pos (by omega)] | rw [if_neg (by omega)])
         try (unfold mU; omega))
  · refine zv_if_ne C 11 dX8_covered_6 rfl (fun h => absurd h (by omega)) (fun _ => ?_)
    refine zv_iconst C dX8_covered_9 rfl ?_
    refine zv_ireturn C dX8_covered_10 rfl rfl rfl rfl ?_
    first
    | (refine zpost ?_ (hp FI AI cFr.rfl)
       unfold aCov
       rw [if_neg (by omega)])
    | (refine zpost ?_ (hp F1 A1 fr)
       unfold aCov
       rw [if_neg (by omega)])
    | (refine zpost ?_ (hp F1 A1 fr)
       unfold aCov
       rw [if_pos ⟨⟨by omega, by omega⟩, ⟨by omega, by omega⟩, by omega, by omega⟩]
       repeat (first | rw [if_pos (by omega)] | rw [if_neg (by omega)])
       try (unfold mU; omega))
set_option maxRecDepth 20000 in
theorem s_X8_balanceOfOne {T : zTt} {FR : zFR} {AR : zAR} {FI : zFI} {AI : zAI} {Post : zPost} {B D : Nat} {N : Int → Int} {nI nL : Nat} {o what : Int} (hd : dLay T FR B D) (hc : cLay T FR) (hB : bLay T FR B) (hK : bk FI AI B N) (hW : mW N nI nL) (gB : 14 ≤ B) (g0 : 0 ≤ o) (g1 : o < N 2) (hp : ∀ (F : zFI) (A : zAI), cFr AI A FI F → Post (zI (mBal N nI nL o what)) T FR AR F A) : zMet M_X8_balanceOfOne [zR 0, zI o, zI what] T FR AR FI AI Post := by
  refine zMet.of [some (zR 0), some (zI o), some (zI what)] rfl rfl rfl (fun G C => ?_)
  obtain ⟨k0, k1, k2, k3, k4, k5, k6, k7, k8⟩ := id hK
  obtain ⟨w0, w1, w2, w3, w4, w5, w6, w7, w8, w9⟩ := id hW
  refine zv_aload_n C dX8_balanceOfOne_0 rfl rfl ?_
  refine zv_getR C dX8_balanceOfOne_1 f_X8_24 hd.1 rfl hd.2.2.2.2.2.2.2.2.2.2.1 ?_
  refine zv_aload_n C dX8_balanceOfOne_4 rfl rfl ?_
  refine zv_getR C dX8_balanceOfOne_5 f_X8_44 hd.1 rfl hd.2.2.2.2.2.2.2.2.2.2.2.2.2.1 ?_
  refine zv_iload_n C dX8_balanceOfOne_8 rfl ?_
  refine zv_cVv0_2 C dX8_balanceOfOne_9 k_X4_workOut l_X8_145 hc.1 rfl ⟨Nat.le_of_ble_eq_true rfl, Nat.le_of_ble_eq_true rfl⟩ ⟨rfl, rfl⟩ ⟨Nat.le_of_ble_eq_true rfl, Nat.le_of_ble_eq_true rfl⟩ rfl rfl ?_
  refine s_X4_workOut hc hB hK hW gB (by omega) (by omega) (fun F1 A1 hv fr => ?_)
  refine zv_iload_n C dX8_balanceOfOne_12 rfl ?_
  by_cases h13r : 0 ≤ what ∧ what ≤ 2
  · have h13s : what = 0 ∨ what = 1 ∨ what = 2 := by omega
    rcases h13s with h13e | h13e | h13e
    · refine zv_tableIn C 40 dX8_balanceOfOne_13 (by omega) (by omega) (by rw [h13e]; rfl) rfl ?_
      refine zv_aload_n C dX8_balanceOfOne_40 rfl rfl ?_
      refine zv_getR C dX8_balanceOfOne_41 f_X8_24 hd.1 rfl hd.2.2.2.2.2.2.2.2.2.2.1 ?_
      refine zv_cVi0_0 C dX8_balanceOfOne_44 k_X4_liability l_X8_243 hc.1 rfl ⟨Nat.le_of_ble_eq_true rfl, Nat.le_of_ble_eq_true rfl⟩ ⟨rfl, rfl⟩ ⟨Nat.le_of_ble_eq_true rfl, Nat.le_of_ble_eq_true rfl⟩ rfl rfl ?_
      refine s_X4_liability (o := o) hc hW hv.r (by omega) (by omega) (by omega) (by omega) ?_
      refine zv_ireturn C dX8_balanceOfOne_47 rfl rfl rfl rfl ?_
      refine zpost ?_ (hp F1 A1 fr)
      unfold mBal
      repeat (first | rw [if_pos (by omega)] | rw [if_neg (by omega)])
    · refine zv_tableIn C 48 dX8_balanceOfOne_13 (by omega) (by omega) (by rw [h13e]; rfl) rfl ?_
      refine zv_aload_n C dX8_balanceOfOne_48 rfl rfl ?_
      refine zv_getR C dX8_balanceOfOne_49 f_X8_24 hd.1 rfl hd.2.2.2.2.2.2.2.2.2.2.1 ?_
      refine zv_cVi0_0 C dX8_balanceOfOne_52 k_X4_asset l_X8_246 hc.1 rfl ⟨Nat.le_of_ble_eq_true rfl, Nat.le_of_ble_eq_true rfl⟩ ⟨rfl, rfl⟩ ⟨Nat.le_of_ble_eq_true rfl, Nat.le_of_ble_eq_true rfl⟩ rfl rfl ?_
      refine s_X4_asset (o := o) hc hW hv.r (by omega) (by omega) (by omega) (by omega) ?_
      refine zv_ireturn C dX8_balanceOfOne_55 rfl rfl rfl rfl ?_
      refine zpost ?_ (hp F1 A1 fr)
      unfold mBal
      repeat (first | rw [if_pos (by omega)] | rw [if_neg (by omega)])
    · refine zv_tableIn C 56 dX8_balanceOfOne_13 (by omega) (by omega) (by rw [h13e]; rfl) rfl ?_
      refine zv_aload_n C dX8_balanceOfOne_56 rfl rfl ?_
      refine zv_getR C dX8_balanceOfOne_57 f_X8_24 hd.1 rfl hd.2.2.2.2.2.2.2.2.2.2.1 ?_
      refine zv_cVi0_0 C dX8_balanceOfOne_60 k_X4_unrecognised l_X8_188 hc.1 rfl ⟨Nat.le_of_ble_eq_true rfl, Nat.le_of_ble_eq_true rfl⟩ ⟨rfl, rfl⟩ ⟨Nat.le_of_ble_eq_true rfl, Nat.le_of_ble_eq_true rfl⟩ rfl rfl ?_
      refine s_X4_unrecognised hc ?_
      rw [hv.2.2]
      refine zv_ireturn C dX8_balanceOfOne_63 rfl rfl rfl rfl ?_
      refine zpost ?_ (hp F1 A1 fr)
      unfold mBal
      repeat (first | rw [if_pos (by omega)] | rw [if_neg (by omega)])
  · refine zv_tableOut C 64 dX8_balanceOfOne_13 (by omega) rfl ?_
    refine zv_aload_n C dX8_balanceOfOne_64 rfl rfl ?_
    refine zv_getR C dX8_balanceOfOne_65 f_X8_24 hd.1 rfl hd.2.2.2.2.2.2.2.2.2.2.1 ?_
    refine zv_cVi0_0 C dX8_balanceOfOne_68 k_X4_net l_X8_185 hc.1 rfl ⟨Nat.le_of_ble_eq_true rfl, Nat.le_of_ble_eq_true rfl⟩ ⟨rfl, rfl⟩ ⟨Nat.le_of_ble_eq_true rfl, Nat.le_of_ble_eq_true rfl⟩ rfl rfl ?_
    refine s_X4_net (o := o) hc hW hv.r (by omega) (by omega) (by omega) (by omega) ?_
    refine zv_ireturn C dX8_balanceOfOne_71 rfl rfl rfl rfl ?_
    refine zpost ?_ (hp F1 A1 fr)
    unfold mBal
    repeat (first | rw [if_pos (by omega)] | rw [if_neg (by omega)])
set_option maxRecDepth 20000 in
theorem s_X8_balanceOfAll {T : zTt} {FR : zFR} {AR : zAR} {FI : zFI} {AI : zAI} {Post : zPost} {B D : Nat} {N : Int → Int} {nI nL : Nat} {what : Int} (hd : dLay T FR B D) (hc : cLay T FR) (hB : bLay T FR B) (hK : bk FI AI B N) (hW : mW N nI nL) (gB : 14 ≤ B) (gw : 0 ≤ what ∧ what ≤ 4) (hp : ∀ (F : zFI) (A : zAI), cFr AI A FI F → Post (zI (zS (fun k => gBal what (mBal N nI nL k (if what < 3 then what else 3))) (N 2).toNat)) T FR AR F A) : zMet M_X8_balanceOfAll [zR 0, zI what] T FR AR FI AI Post := by
  refine zMet.of [some (zR 0), some (zI what), none, none, none] rfl rfl rfl (fun G C => ?_)
  obtain ⟨k0, k1, k2, k3, k4, k5, k6, k7, k8⟩ := id hK
  obtain ⟨w0, w1, w2, w3, w4, w5, w6, w7, w8, w9⟩ := id hW
  generalize hf : (fun k => gBal what (mBal N nI nL k (if what < 3 then what else 3))) = f
  have hp2 : ∀ (F : zFI) (A : zAI), cFr AI A FI F → Post (zI (zS f (N 2).toNat)) T FR AR F A := by rw [← hf]; exact hp
  have mb : ∀ k : Int, 0 ≤ k → k < N 2 → -300000000 ≤ mBal N nI nL k (if what < 3 then what else 3) ∧ mBal N nI nL k (if what < 3 then what else 3) ≤ 300000000 := fun k a b => by
    have lb := mLi_b hW (o := k) a (by omega)
    have ab := mAs_b hW (o := k) (yr := -1) (more := 0) a (by omega) (by omega) (by omega)
    have ub := mUn_b hW (o := k) (yr := -1) (more := 0) a (by omega) (by omega) (by omega)
    unfold mBal
    repeat (first | omega | split)
  have fb : ∀ k : Int, 0 ≤ k → k < N 2 → f k = gBal what (mBal N nI nL k (if what < 3 then what else 3)) ∧ -300000000 ≤ f k ∧ f k ≤ 300000000 := fun k a b => by
    have z := mb k a b
    refine ⟨by rw [← hf], ?_⟩
    rw [← hf]
    dsimp only
    unfold gBal
    repeat (first | omega | split)
  refine zv_iconst C dX8_balanceOfAll_0 rfl ?_
  refine zv_istore_2 C dX8_balanceOfAll_1 rfl rfl ?_
  refine zv_iconst C dX8_balanceOfAll_2 rfl ?_
  refine zv_istore_3 C dX8_balanceOfAll_3 rfl rfl ?_
  suffices lp : ∀ (d j : Nat) (a4 : Option zVal) (F : zFI) (A : zAI), cFr AI A FI F → j + d = (N 2).toNat → zV G 4 [some (zR 0), some (zI what), some (zI (zS f j)), some (zI (j : Int)), a4] [] T FR AR F A 0 0 from lp (N 2).toNat 0 none FI AI cFr.rfl (by omega)
  intro d
  induction d with
  | zero =>
    intro j a4 F A fr hj
    have ej : j = (N 2).toNat := by omega
    subst ej
    have hK2 := fr.bk hK gB
    refine zv_iload_n C dX8_balanceOfAll_4 rfl ?_
    refine zv_aload_n C dX8_balanceOfAll_5 rfl rfl ?_
    refine zv_getR C dX8_balanceOfAll_6 f_X8_44 hd.1 rfl hd.2.2.2.2.2.2.2.2.2.2.2.2.2.1 ?_
    refine zv_getI C dX8_balanceOfAll_9 f_X8_84 hB.1 rfl ?_
    rw [hK2.2.2.1]
    refine zv_icmp_ge C 71 dX8_balanceOfAll_12 rfl (fun h12 => ?_) (fun h12 => absurd h12 (by omega))
    refine zv_iload_n C dX8_balanceOfAll_71 rfl ?_
    refine zv_ireturn C dX8_balanceOfAll_72 rfl rfl rfl rfl ?_
    exact hp2 F A fr
  | succ d ih =>
    intro j a4 F A fr hj
    have hK2 := fr.bk hK gB
    have f1 := fb j (by omega) (by omega)
    have s1 := zS_lb (f := f) (c := -300000000) j (fun i a b => (fb i a (by omega)).2.1)
    have s2 := zS_ub (f := f) (c := 300000000) j (fun i a b => (fb i a (by omega)).2.2)
    have z := mb j (by omega) (by omega)
    have q := fun a F1 A1 fr1 => ih (j + 1) a F1 A1 fr1 (by omega)
    have em : min what 3 = if what < 3 then what else 3 := by split <;> omega
    obtain ⟨f2, -⟩ := f1
    unfold gBal at f2
    refine zv_iload_n C dX8_balanceOfAll_4 rfl ?_
    refine zv_aload_n C dX8_balanceOfAll_5 rfl rfl ?_
    refine zv_getR C dX8_balanceOfAll_6 f_X8_44 hd.1 rfl hd.2.2.2.2.2.2.2.2.2.2.2.2.2.1 ?_
    refine zv_getI C dX8_balanceOfAll_9 f_X8_84 hB.1 rfl ?_
    rw [hK2.2.2.1]
    refine zv_icmp_ge C 71 dX8_balanceOfAll_12 rfl (fun h12 => absurd h12 (by omega)) (fun h12 => ?_)
    refine zv_aload_n C dX8_balanceOfAll_15 rfl rfl ?_
    refine zv_iload_n C dX8_balanceOfAll_16 rfl ?_
    refine zv_iload_n C dX8_balanceOfAll_17 rfl ?_
    refine zv_iconst C dX8_balanceOfAll_18 rfl ?_
    refine zv_min C dX8_balanceOfAll_19 l_X8_249 mi_st ini_Math mi_cd (Nat.le_of_ble_eq_true rfl) (Nat.le_of_ble_eq_true rfl) ⟨Nat.le_of_ble_eq_true rfl, Nat.le_of_ble_eq_true rfl⟩ ?_
    rw [em]
    refine zv_cVi0_2 C dX8_balanceOfAll_22 k_X8_balanceOfOne l_X8_171 hd.1 rfl ⟨Nat.le_of_ble_eq_true rfl, Nat.le_of_ble_eq_true rfl⟩ ⟨rfl, rfl⟩ ⟨Nat.le_of_ble_eq_true rfl, Nat.le_of_ble_eq_true rfl⟩ rfl rfl ?_
    refine s_X8_balanceOfOne hd hc hB hK2 hW gB (by omega) (by omega) (fun F2 A2 fr2 => ?_)
    generalize hmv : mBal N nI nL (j : Int) (if what < 3 then what else 3) = mv at *
    refine zv_istore_4 C dX8_balanceOfAll_25 rfl rfl ?_
    refine zv_iload_n C dX8_balanceOfAll_27 rfl ?_
    refine zv_iconst C dX8_balanceOfAll_28 rfl ?_
    refine zv_icmp_lt C 42 dX8_balanceOfAll_29 rfl (fun h29 => ?_) (fun h29 => ?_)
    · refine zv_iload_n C dX8_balanceOfAll_42 rfl ?_
      refine zv_iload C dX8_balanceOfAll_43 rfl ?_
      refine zv_iadd C dX8_balanceOfAll_45 ⟨by omega, by omega⟩ ?_
      refine zv_istore_2 C dX8_balanceOfAll_46 rfl rfl ?_
      refine zv_goto C 65 dX8_balanceOfAll_47 rfl ?_
      refine zv_iinc_3 C dX8_balanceOfAll_65 rfl rfl ⟨by omega, by omega⟩ ?_
      refine zv_goto C 4 dX8_balanceOfAll_68 rfl ?_
      have q2 := q (some (zI mv)) F2 A2 (fr.trans fr2)
      first
      | (rw [if_pos (by omega)] at f2; rw [zS_t f2] at q2; exact q2)
      | (rw [if_neg (by omega), if_pos (by omega), if_pos (by omega)] at f2; rw [zS_t f2] at q2; exact q2)
      | (rw [if_neg (by omega), if_pos (by omega), if_neg (by omega)] at f2; rw [zS_f f2] at q2; exact q2)
      | (rw [if_neg (by omega), if_neg (by omega), if_pos (by omega)] at f2; rw [zS_t f2, show zS f j + -mv = zS f j - mv by omega] at q2; exact q2)
      | (rw [if_neg (by omega), if_neg (by omega), if_neg (by omega)] at f2; rw [zS_f f2] at q2; exact q2)
    · refine zv_iload_n C dX8_balanceOfAll_32 rfl ?_
      refine zv_iconst C dX8_balanceOfAll_33 rfl ?_
      refine zv_icmp_ne C 50 dX8_balanceOfAll_34 rfl (fun h34 => ?_) (fun h34 => ?_)
      · refine zv_iload_n C dX8_balanceOfAll_50 rfl ?_
        refine zv_iconst C dX8_balanceOfAll_51 rfl ?_
        refine zv_icmp_ne C 65 dX8_balanceOfAll_52 rfl (fun h52 => ?_) (fun h52 => ?_)
        · refine zv_iinc_3 C dX8_balanceOfAll_65 rfl rfl ⟨by omega, by omega⟩ ?_
          refine zv_goto C 4 dX8_balanceOfAll_68 rfl ?_
          have q2 := q (some (zI mv)) F2 A2 (fr.trans fr2)
          first
          | (rw [if_pos (by omega)] at f2; rw [zS_t f2] at q2; exact q2)
          | (rw [if_neg (by omega), if_pos (by omega), if_pos (by omega)] at f2; rw [zS_t f2] at q2; exact q2)
          | (rw [if_neg (by omega), if_pos (by omega), if_neg (by omega)] at f2; rw [zS_f f2] at q2; exact q2)
          | (rw [if_neg (by omega), if_neg (by omega), if_pos (by omega)] at f2; rw [zS_t f2, show zS f j + -mv = zS f j - mv by omega] at q2; exact q2)
          | (rw [if_neg (by omega), if_neg (by omega), if_neg (by omega)] at f2; rw [zS_f f2] at q2; exact q2)
        · refine zv_iload C dX8_balanceOfAll_55 rfl ?_
          refine zv_if_ge C 65 dX8_balanceOfAll_57 rfl (fun h57 => ?_) (fun h57 => ?_)
          · refine zv_iinc_3 C dX8_balanceOfAll_65 rfl rfl ⟨by omega, by omega⟩ ?_
            refine zv_goto C 4 dX8_balanceOfAll_68 rfl ?_
            have q2 := q (some (zI mv)) F2 A2 (fr.trans fr2)
            first
            | (rw [if_pos (by omega)] at f2; rw [zS_t f2] at q2; exact q2)
            | (rw [if_neg (by omega), if_pos (by omega), if_pos (by omega)] at f2; rw [zS_t f2] at q2; exact q2)
            | (rw [if_neg (by omega), if_pos (by omega), if_neg (by omega)] at f2; rw [zS_f f2] at q2; exact q2)
            | (rw [if_neg (by omega), if_neg (by omega), if_pos (by omega)] at f2; rw [zS_t f2, show zS f j + -mv = zS f j - mv by omega] at q2; exact q2)
            | (rw [if_neg (by omega), if_neg (by omega), if_neg (by omega)] at f2; rw [zS_f f2] at q2; exact q2)
          · refine zv_iload_n C dX8_balanceOfAll_60 rfl ?_
            refine zv_iload C dX8_balanceOfAll_61 rfl ?_
            refine zv_isub C dX8_balanceOfAll_63 ⟨by omega, by omega⟩ ?_
            refine zv_istore_2 C dX8_balanceOfAll_64 rfl rfl ?_
            refine zv_iinc_3 C dX8_balanceOfAll_65 rfl rfl ⟨by omega, by omega⟩ ?_
            refine zv_goto C 4 dX8_balanceOfAll_68 rfl ?_
            have q2 := q (some (zI mv)) F2 A2 (fr.trans fr2)
            first
            | (rw [if_pos (by omega)] at f2; rw [zS_t f2] at q2; exact q2)
            | (rw [if_neg (by omega), if_pos (by omega), if_pos (by omega)] at f2; rw [zS_t f2] at q2; exact q2)
            | (rw [if_neg (by omega), if_pos (by omega), if_neg (by omega)] at f2; rw [zS_f f2] at q2; exact q2)
            | (rw [if_neg (by omega), if_neg (by omega), if_pos (by omega)] at f2; rw [zS_t f2, show zS f j + -mv = zS f j - mv by omega] at q2; exact q2)
            | (rw [if_neg (by omega), if_neg (by omega), if_neg (by omega)] at f2; rw [zS_f f2] at q2; exact q2)
      · refine zv_iload C dX8_balanceOfAll_37 rfl ?_
        refine zv_if_le C 50 dX8_balanceOfAll_39 rfl (fun h39 => ?_) (fun h39 => ?_)
        · refine zv_iload_n C dX8_balanceOfAll_50 rfl ?_
          refine zv_iconst C dX8_balanceOfAll_51 rfl ?_
          refine zv_icmp_ne C 65 dX8_balanceOfAll_52 rfl (fun h52 => ?_) (fun h52 => ?_)
          · refine zv_iinc_3 C dX8_balanceOfAll_65 rfl rfl ⟨by omega, by omega⟩ ?_
            refine zv_goto C 4 dX8_balanceOfAll_68 rfl ?_
            have q2 := q (some (zI mv)) F2 A2 (fr.trans fr2)
            first
            | (rw [if_pos (by omega)] at f2; rw [zS_t f2] at q2; exact q2)
            | (rw [if_neg (by omega), if_pos (by omega), if_pos (by omega)] at f2; rw [zS_t f2] at q2; exact q2)
            | (rw [if_neg (by omega), if_pos (by omega), if_neg (by omega)] at f2; rw [zS_f f2] at q2; exact q2)
            | (rw [if_neg (by omega), if_neg (by omega), if_pos (by omega)] at f2; rw [zS_t f2, show zS f j + -mv = zS f j - mv by omega] at q2; exact q2)
            | (rw [if_neg (by omega), if_neg (by omega), if_neg (by omega)] at f2; rw [zS_f f2] at q2; exact q2)
          · refine zv_iload C dX8_balanceOfAll_55 rfl ?_
            refine zv_if_ge C 65 dX8_balanceOfAll_57 rfl (fun h57 => ?_) (fun h57 => ?_)
            · refine zv_iinc_3 C dX8_balanceOfAll_65 rfl rfl ⟨by omega, by omega⟩ ?_
              refine zv_goto C 4 dX8_balanceOfAll_68 rfl ?_
              have q2 := q (some (zI mv)) F2 A2 (fr.trans fr2)
              first
              | (rw [if_pos (by omega)] at f2; rw [zS_t f2] at q2; exact q2)
              | (rw [if_neg (by omega), if_pos (by omega), if_pos (by omega)] at f2; rw [zS_t f2] at q2; exact q2)
              | (rw [if_neg (by omega), if_pos (by omega), if_neg (by omega)] at f2; rw [zS_f f2] at q2; exact q2)
              | (rw [if_neg (by omega), if_neg (by omega), if_pos (by omega)] at f2; rw [zS_t f2, show zS f j + -mv = zS f j - mv by omega] at q2; exact q2)
              | (rw [if_neg (by omega), if_neg (by omega), if_neg (by omega)] at f2; rw [zS_f f2] at q2; exact q2)
            · refine zv_iload_n C dX8_balanceOfAll_60 rfl ?_
              refine zv_iload C dX8_balanceOfAll_61 rfl ?_
              refine zv_isub C dX8_balanceOfAll_63 ⟨by omega, by omega⟩ ?_
              refine zv_istore_2 C dX8_balanceOfAll_64 rfl rfl ?_
              refine zv_iinc_3 C dX8_balanceOfAll_65 rfl rfl ⟨by omega, by omega⟩ ?_
              refine zv_goto C 4 dX8_balanceOfAll_68 rfl ?_
              have q2 := q (some (zI mv)) F2 A2 (fr.trans fr2)
              first
              | (rw [if_pos (by omega)] at f2; rw [zS_t f2] at q2; exact q2)
              | (rw [if_neg (by omega), if_pos (by omega), if_pos (by omega)] at f2; rw [zS_t f2] at q2; exact q2)
              | (rw [if_neg (by omega), if_pos (by omega), if_neg (by omega)] at f2; rw [zS_f f2] at q2; exact q2)
              | (rw [if_neg (by omega), if_neg (by omega), if_pos (by omega)] at f2; rw [zS_t f2, show zS f j + -mv = zS f j - mv by omega] at q2; exact q2)
              | (rw [if_neg (by omega), if_neg (by omega), if_neg (by omega)] at f2; rw [zS_f f2] at q2; exact q2)
        · refine zv_iload_n C dX8_balanceOfAll_42 rfl ?_
          refine zv_iload C dX8_balanceOfAll_43 rfl ?_
          refine zv_iadd C dX8_balanceOfAll_45 ⟨by omega, by omega⟩ ?_
          refine zv_istore_2 C dX8_balanceOfAll_46 rfl rfl ?_
          refine zv_goto C 65 dX8_balanceOfAll_47 rfl ?_
          refine zv_iinc_3 C dX8_balanceOfAll_65 rfl rfl ⟨by omega, by omega⟩ ?_
          refine zv_goto C 4 dX8_balanceOfAll_68 rfl ?_
          have q2 := q (some (zI mv)) F2 A2 (fr.trans fr2)
          first
          | (rw [if_pos (by omega)] at f2; rw [zS_t f2] at q2; exact q2)
          | (rw [if_neg (by omega), if_pos (by omega), if_pos (by omega)] at f2; rw [zS_t f2] at q2; exact q2)
          | (rw [if_neg (by omega), if_pos (by omega), if_neg (by omega)] at f2; rw [zS_f f2] at q2; exact q2)
          | (rw [if_neg (by omega), if_neg (by omega), if_pos (by omega)] at f2; rw [zS_t f2, show zS f j + -mv = zS f j - mv by omega] at q2; exact q2)
          | (rw [if_neg (by omega), if_neg (by omega), if_neg (by omega)] at f2; rw [zS_f f2] at q2; exact q2)

set_option maxRecDepth 20000 in
theorem s_X8_balance {T : zTt} {FR : zFR} {AR : zAR} {FI : zFI} {AI : zAI} {Post : zPost} {B D : Nat} {N : Int → Int} {nI nL : Nat} {o what : Int} (hd : dLay T FR B D) (hc : cLay T FR) (hB : bLay T FR B) (hK : bk FI AI B N) (hW : mW N nI nL) (gB : 14 ≤ B) (hp : ∀ (F : zFI) (A : zAI), cFr AI A FI F → Post (zI (aBal N nI nL o what)) T FR AR F A) : zMet M_X8_balance [zR 0, zI o, zI what] T FR AR FI AI Post := by
  refine zMet.of [some (zR 0), some (zI o), some (zI what)] rfl rfl rfl (fun G C => ?_)
  obtain ⟨k0, k1, k2, k3, k4, k5, k6, k7, k8⟩ := id hK
  obtain ⟨w0, w1, w2, w3, w4, w5, w6, w7, w8, w9⟩ := id hW
  refine zv_iload_n C dX8_balance_0 rfl ?_
  refine zv_iconst C dX8_balance_1 rfl ?_
  refine zv_icmp_ne C 20 dX8_balance_2 rfl (fun h2 => ?_) (fun h2 => ?_)
  · refine zv_aload_n C dX8_balance_20 rfl rfl ?_
    refine zv_getR C dX8_balance_21 f_X8_44 hd.1 rfl hd.2.2.2.2.2.2.2.2.2.2.2.2.2.1 ?_
    refine zv_iload_n C dX8_balance_24 rfl ?_
    refine zv_cVi0_1 C dX8_balance_25 k_X2_hasOffice l_X8_135 hB.1 rfl ⟨Nat.le_of_ble_eq_true rfl, Nat.le_of_ble_eq_true rfl⟩ ⟨rfl, rfl⟩ ⟨Nat.le_of_ble_eq_true rfl, Nat.le_of_ble_eq_true rfl⟩ rfl rfl ?_
    refine s_X2_hasOffice hB hK (fun b25 => ?_) (fun b25 => ?_)
    · refine zv_if_eq C 40 dX8_balance_28 rfl (fun h => absurd h (by omega)) (fun _ => ?_)
      refine zv_iload_n C dX8_balance_31 rfl ?_
      refine zv_if_lt C 40 dX8_balance_32 rfl (fun h32 => ?_) (fun h32 => ?_)
      · refine zv_ldc (x := -100000000) C dX8_balance_40 c_X8_170 rfl ?_
        refine zv_ireturn C dX8_balance_42 rfl rfl rfl rfl ?_
        first
        | (exfalso; omega)
        | (refine zpost ?_ (hp FI AI cFr.rfl)
           unfold aBal
           first | (rw [if_pos (by omega), if_neg (by omega)]) | (rw [if_neg (by omega), if_neg (by omega)]))
        | (refine zpost ?_ (hp F1 A1 fr)
           unfold aBal
           first | (rw [if_pos (by omega), if_pos (by omega)]) | (rw [if_neg (by omega), if_pos ⟨⟨by omega, by omega⟩, by omega, by omega⟩]))
      · refine zv_iload_n C dX8_balance_35 rfl ?_
        refine zv_iconst C dX8_balance_36 rfl ?_
        refine zv_icmp_le C 43 dX8_balance_37 rfl (fun h37 => ?_) (fun h37 => ?_)
        · refine zv_aload_n C dX8_balance_43 rfl rfl ?_
          refine zv_iload_n C dX8_balance_44 rfl ?_
          refine zv_iload_n C dX8_balance_45 rfl ?_
          refine zv_cVi0_2 C dX8_balance_46 k_X8_balanceOfOne l_X8_171 hd.1 rfl ⟨Nat.le_of_ble_eq_true rfl, Nat.le_of_ble_eq_true rfl⟩ ⟨rfl, rfl⟩ ⟨Nat.le_of_ble_eq_true rfl, Nat.le_of_ble_eq_true rfl⟩ rfl rfl ?_
          refine s_X8_balanceOfOne hd hc hB hK hW gB (by omega) (by omega) (fun F1 A1 fr => ?_)
          refine zv_ireturn C dX8_balance_49 rfl rfl rfl rfl ?_
          first
          | (exfalso; omega)
          | (refine zpost ?_ (hp FI AI cFr.rfl)
             unfold aBal
             first | (rw [if_pos (by omega), if_neg (by omega)]) | (rw [if_neg (by omega), if_neg (by omega)]))
          | (refine zpost ?_ (hp F1 A1 fr)
             unfold aBal
             first | (rw [if_pos (by omega), if_pos (by omega)]) | (rw [if_neg (by omega), if_pos ⟨⟨by omega, by omega⟩, by omega, by omega⟩]))
        · refine zv_ldc (x := -100000000) C dX8_balance_40 c_X8_170 rfl ?_
          refine zv_ireturn C dX8_balance_42 rfl rfl rfl rfl ?_
          first
          | (exfalso; omega)
          | (refine zpost ?_ (hp FI AI cFr.rfl)
             unfold aBal
             first | (rw [if_pos (by omega), if_neg (by omega)]) | (rw [if_neg (by omega), if_neg (by omega)]))
          | (refine zpost ?_ (hp F1 A1 fr)
             unfold aBal
             first | (rw [if_pos (by omega), if_pos (by omega)]) | (rw [if_neg (by omega), if_pos ⟨⟨by omega, by omega⟩, by omega, by omega⟩]))
    · refine zv_if_eq C 40 dX8_balance_28 rfl (fun _ => ?_) (fun h => absurd h (by omega))
      refine zv_ldc (x := -100000000) C dX8_balance_40 c_X8_170 rfl ?_
      refine zv_ireturn C dX8_balance_42 rfl rfl rfl rfl ?_
      first
      | (exfalso; omega)
      | (refine zpost ?_ (hp FI AI cFr.rfl)
         unfold aBal
         first | (rw [if_pos (by omega), if_neg (by omega)]) | (rw [if_neg (by omega), if_neg (by omega)]))
      | (refine zpost ?_ (hp F1 A1 fr)
         unfold aBal
         first | (rw [if_pos (by omega), if_pos (by omega)]) | (rw [if_neg (by omega), if_pos ⟨⟨by omega, by omega⟩, by omega, by omega⟩]))
  · refine zv_iload_n C dX8_balance_5 rfl ?_
    refine zv_if_lt C 20 dX8_balance_6 rfl (fun h6 => ?_) (fun h6 => ?_)
    · refine zv_aload_n C dX8_balance_20 rfl rfl ?_
      refine zv_getR C dX8_balance_21 f_X8_44 hd.1 rfl hd.2.2.2.2.2.2.2.2.2.2.2.2.2.1 ?_
      refine zv_iload_n C dX8_balance_24 rfl ?_
      refine zv_cVi0_1 C dX8_balance_25 k_X2_hasOffice l_X8_135 hB.1 rfl ⟨Nat.le_of_ble_eq_true rfl, Nat.le_of_ble_eq_true rfl⟩ ⟨rfl, rfl⟩ ⟨Nat.le_of_ble_eq_true rfl, Nat.le_of_ble_eq_true rfl⟩ rfl rfl ?_
      refine s_X2_hasOffice hB hK (fun b25 => ?_) (fun b25 => ?_)
      · refine zv_if_eq C 40 dX8_balance_28 rfl (fun h => absurd h (by omega)) (fun _ => ?_)
        refine zv_iload_n C dX8_balance_31 rfl ?_
        refine zv_if_lt C 40 dX8_balance_32 rfl (fun h32 => ?_) (fun h32 => ?_)
        · refine zv_ldc (x := -100000000) C dX8_balance_40 c_X8_170 rfl ?_
          refine zv_ireturn C dX8_balance_42 rfl rfl rfl rfl ?_
          first
          | (exfalso; omega)
          | (refine zpost ?_ (hp FI AI cFr.rfl)
             unfold aBal
             first | (rw [if_pos (by omega), if_neg (by omega)]) | (rw [if_neg (by omega), if_neg (by omega)]))
          | (refine zpost ?_ (hp F1 A1 fr)
             unfold aBal
             first | (rw [if_pos (by omega), if_pos (by omega)]) | (rw [if_neg (by omega), if_pos ⟨⟨by omega, by omega⟩, by omega, by omega⟩]))
        · refine zv_iload_n C dX8_balance_35 rfl ?_
          refine zv_iconst C dX8_balance_36 rfl ?_
          refine zv_icmp_le C 43 dX8_balance_37 rfl (fun h37 => ?_) (fun h37 => ?_)
          · refine zv_aload_n C dX8_balance_43 rfl rfl ?_
            refine zv_iload_n C dX8_balance_44 rfl ?_
            refine zv_iload_n C dX8_balance_45 rfl ?_
            refine zv_cVi0_2 C dX8_balance_46 k_X8_balanceOfOne l_X8_171 hd.1 rfl ⟨Nat.le_of_ble_eq_true rfl, Nat.le_of_ble_eq_true rfl⟩ ⟨rfl, rfl⟩ ⟨Nat.le_of_ble_eq_true rfl, Nat.le_of_ble_eq_true rfl⟩ rfl rfl ?_
            refine s_X8_balanceOfOne hd hc hB hK hW gB (by omega) (by omega) (fun F1 A1 fr => ?_)
            refine zv_ireturn C dX8_balance_49 rfl rfl rfl rfl ?_
            first
            | (exfalso; omega)
            | (refine zpost ?_ (hp FI AI cFr.rfl)
               unfold aBal
               first | (rw [if_pos (by omega), if_neg (by omega)]) | (rw [if_neg (by omega), if_neg (by omega)]))
            | (refine zpost ?_ (hp F1 A1 fr)
               unfold aBal
               first | (rw [if_pos (by omega), if_pos (by omega)]) | (rw [if_neg (by omega), if_pos ⟨⟨by omega, by omega⟩, by omega, by omega⟩]))
          · refine zv_ldc (x := -100000000) C dX8_balance_40 c_X8_170 rfl ?_
            refine zv_ireturn C dX8_balance_42 rfl rfl rfl rfl ?_
            first
            | (exfalso; omega)
            | (refine zpost ?_ (hp FI AI cFr.rfl)
               unfold aBal
               first | (rw [if_pos (by omega), if_neg (by omega)]) | (rw [if_neg (by omega), if_neg (by omega)]))
            | (refine zpost ?_ (hp F1 A1 fr)
               unfold aBal
               first | (rw [if_pos (by omega), if_pos (by omega)]) | (rw [if_neg (by omega), if_pos ⟨⟨by omega, by omega⟩, by omega, by omega⟩]))
      · refine zv_if_eq C 40 dX8_balance_28 rfl (fun _ => ?_) (fun h => absurd h (by omega))
        refine zv_ldc (x := -100000000) C dX8_balance_40 c_X8_170 rfl ?_
        refine zv_ireturn C dX8_balance_42 rfl rfl rfl rfl ?_
        first
        | (exfalso; omega)
        | (refine zpost ?_ (hp FI AI cFr.rfl)
           unfold aBal
           first | (rw [if_pos (by omega), if_neg (by omega)]) | (rw [if_neg (by omega), if_neg (by omega)]))
        | (refine zpost ?_ (hp F1 A1 fr)
           unfold aBal
           first | (rw [if_pos (by omega), if_pos (by omega)]) | (rw [if_neg (by omega), if_pos ⟨⟨by omega, by omega⟩, by omega, by omega⟩]))
    · refine zv_iload_n C dX8_balance_9 rfl ?_
      refine zv_iconst C dX8_balance_10 rfl ?_
      refine zv_icmp_gt C 20 dX8_balance_11 rfl (fun h11 => ?_) (fun h11 => ?_)
      · refine zv_aload_n C dX8_balance_20 rfl rfl ?_
        refine zv_getR C dX8_balance_21 f_X8_44 hd.1 rfl hd.2.2.2.2.2.2.2.2.2.2.2.2.2.1 ?_
        refine zv_iload_n C dX8_balance_24 rfl ?_
        refine zv_cVi0_1 C dX8_balance_25 k_X2_hasOffice l_X8_135 hB.1 rfl ⟨Nat.le_of_ble_eq_true rfl, Nat.le_of_ble_eq_true rfl⟩ ⟨rfl, rfl⟩ ⟨Nat.le_of_ble_eq_true rfl, Nat.le_of_ble_eq_true rfl⟩ rfl rfl ?_
        refine s_X2_hasOffice hB hK (fun b25 => ?_) (fun b25 => ?_)
        · refine zv_if_eq C 40 dX8_balance_28 rfl (fun h => absurd h (by omega)) (fun _ => ?_)
          refine zv_iload_n C dX8_balance_31 rfl ?_
          refine zv_if_lt C 40 dX8_balance_32 rfl (fun h32 => ?_) (fun h32 => ?_)
          · refine zv_ldc (x := -100000000) C dX8_balance_40 c_X8_170 rfl ?_
            refine zv_ireturn C dX8_balance_42 rfl rfl rfl rfl ?_
            first
            | (exfalso; omega)
            | (refine zpost ?_ (hp FI AI cFr.rfl)
               unfold aBal
               first | (rw [if_pos (by omega), if_neg (by omega)]) | (rw [if_neg (by omega), if_neg (by omega)]))
            | (refine zpost ?_ (hp F1 A1 fr)
               unfold aBal
               first | (rw [if_pos (by omega), if_pos (by omega)]) | (rw [if_neg (by omega), if_pos ⟨⟨by omega, by omega⟩, by omega, by omega⟩]))
          · refine zv_iload_n C dX8_balance_35 rfl ?_
            refine zv_iconst C dX8_balance_36 rfl ?_
            refine zv_icmp_le C 43 dX8_balance_37 rfl (fun h37 => ?_) (fun h37 => ?_)
            · refine zv_aload_n C dX8_balance_43 rfl rfl ?_
              refine zv_iload_n C dX8_balance_44 rfl ?_
              refine zv_iload_n C dX8_balance_45 rfl ?_
              refine zv_cVi0_2 C dX8_balance_46 k_X8_balanceOfOne l_X8_171 hd.1 rfl ⟨Nat.le_of_ble_eq_true rfl, Nat.le_of_ble_eq_true rfl⟩ ⟨rfl, rfl⟩ ⟨Nat.le_of_ble_eq_true rfl, Nat.le_of_ble_eq_true rfl⟩ rfl rfl ?_
              refine s_X8_balanceOfOne hd hc hB hK hW gB (by omega) (by omega) (fun F1 A1 fr => ?_)
              refine zv_ireturn C dX8_balance_49 rfl rfl rfl rfl ?_
              first
              | (exfalso; omega)
              | (refine zpost ?_ (hp FI AI cFr.rfl)
                 unfold aBal
                 first | (rw [if_pos (by omega), if_neg (by omega)]) | (rw [if_neg (by omega), if_neg (by omega)]))
              | (refine zpost ?_ (hp F1 A1 fr)
                 unfold aBal
                 first | (rw [if_pos (by omega), if_pos (by omega)]) | (rw [if_neg (by omega), if_pos ⟨⟨by omega, by omega⟩, by omega, by omega⟩]))
            · refine zv_ldc (x := -100000000) C dX8_balance_40 c_X8_170 rfl ?_
              refine zv_ireturn C dX8_balance_42 rfl rfl rfl rfl ?_
              first
              | (exfalso; omega)
              | (refine zpost ?_ (hp FI AI cFr.rfl)
                 unfold aBal
                 first | (rw [if_pos (by omega), if_neg (by omega)]) | (rw [if_neg (by omega), if_neg (by omega)]))
              | (refine zpost ?_ (hp F1 A1 fr)
                 unfold aBal
                 first | (rw [if_pos (by omega), if_pos (by omega)]) | (rw [if_neg (by omega), if_pos ⟨⟨by omega, by omega⟩, by omega, by omega⟩]))
        · refine zv_if_eq C 40 dX8_balance_28 rfl (fun _ => ?_) (fun h => absurd h (by omega))
          refine zv_ldc (x := -100000000) C dX8_balance_40 c_X8_170 rfl ?_
          refine zv_ireturn C dX8_balance_42 rfl rfl rfl rfl ?_
          first
          | (exfalso; omega)
          | (refine zpost ?_ (hp FI AI cFr.rfl)
             unfold aBal
             first | (rw [if_pos (by omega), if_neg (by omega)]) | (rw [if_neg (by omega), if_neg (by omega)]))
          | (refine zpost ?_ (hp F1 A1 fr)
             unfold aBal
             first | (rw [if_pos (by omega), if_pos (by omega)]) | (rw [if_neg (by omega), if_pos ⟨⟨by omega, by omega⟩, by omega, by omega⟩]))
      · refine zv_aload_n C dX8_balance_14 rfl rfl ?_
        refine zv_iload_n C dX8_balance_15 rfl ?_
        refine zv_cVi0_1 C dX8_balance_16 k_X8_balanceOfAll l_X8_167 hd.1 rfl ⟨Nat.le_of_ble_eq_true rfl, Nat.le_of_ble_eq_true rfl⟩ ⟨rfl, rfl⟩ ⟨Nat.le_of_ble_eq_true rfl, Nat.le_of_ble_eq_true rfl⟩ rfl rfl ?_
        refine s_X8_balanceOfAll hd hc hB hK hW gB ⟨by omega, by omega⟩ (fun F1 A1 fr => ?_)
        refine zv_ireturn C dX8_balance_19 rfl rfl rfl rfl ?_
        first
        | (exfalso; omega)
        | (refine zpost ?_ (hp FI AI cFr.rfl)
           unfold aBal
           first | (rw [if_pos (by omega), if_neg (by omega)]) | (rw [if_neg (by omega), if_neg (by omega)]))
        | (refine zpost ?_ (hp F1 A1 fr)
           unfold aBal
           first | (rw [if_pos (by omega), if_pos (by omega)]) | (rw [if_neg (by omega), if_pos ⟨⟨by omega, by omega⟩, by omega, by omega⟩]))
set_option maxRecDepth 20000 in
theorem s_X8_would {T : zTt} {FR : zFR} {AR : zAR} {FI : zFI} {AI : zAI} {Post : zPost} {B D : Nat} {N : Int → Int} {nI nL : Nat} {o y r : Int} (hd : dLay T FR B D) (hc : cLay T FR) (hB : bLay T FR B) (hK : bk FI AI B N) (hW : mW N nI nL) (gB : 14 ≤ B) (hp : ∀ (F : zFI) (A : zAI), cFr AI A FI F → Post (zI (aWould N nI nL o y r)) T FR AR F A) : zMet M_X8_would [zR 0, zI o, zI y, zI r] T FR AR FI AI Post := by
  refine zMet.of [some (zR 0), some (zI o), some (zI y), some (zI r)] rfl rfl rfl (fun G C => ?_)
  obtain ⟨k0, k1, k2, k3, k4, k5, k6, k7, k8⟩ := id hK
  obtain ⟨w0, w1, w2, w3, w4, w5, w6, w7, w8, w9⟩ := id hW
  refine zv_aload_n C dX8_would_0 rfl rfl ?_
  refine zv_iload_n C dX8_would_1 rfl ?_
  refine zv_iload_n C dX8_would_2 rfl ?_
  refine zv_iload_n C dX8_would_3 rfl ?_
  refine zv_cVi0_3 C dX8_would_4 k_X8_mayBeEnacted l_X8_177 hd.1 rfl ⟨Nat.le_of_ble_eq_true rfl, Nat.le_of_ble_eq_true rfl⟩ ⟨rfl, rfl⟩ ⟨Nat.le_of_ble_eq_true rfl, Nat.le_of_ble_eq_true rfl⟩ rfl rfl ?_
  refine s_X8_mayBeEnacted hd hc hB hK hW gB (fun b4 => ?_) (fun b4 => ?_)
  · refine zv_if_ne C 13 dX8_would_7 rfl (fun _ => ?_) (fun h => absurd h (by omega))
    refine zv_aload_n C dX8_would_13 rfl rfl ?_
    refine zv_getR C dX8_would_14 f_X8_24 hd.1 rfl hd.2.2.2.2.2.2.2.2.2.2.1 ?_
    refine zv_aload_n C dX8_would_17 rfl rfl ?_
    refine zv_getR C dX8_would_18 f_X8_44 hd.1 rfl hd.2.2.2.2.2.2.2.2.2.2.2.2.2.1 ?_
    refine zv_iload_n C dX8_would_21 rfl ?_
    refine zv_cVv0_2 C dX8_would_22 k_X4_workOut l_X8_145 hc.1 rfl ⟨Nat.le_of_ble_eq_true rfl, Nat.le_of_ble_eq_true rfl⟩ ⟨rfl, rfl⟩ ⟨Nat.le_of_ble_eq_true rfl, Nat.le_of_ble_eq_true rfl⟩ rfl rfl ?_
    have b5 := id b4
    unfold okEn at b5
    refine s_X4_workOut hc hB hK hW gB (by omega) (by omega) (fun F1 A1 hv fr => ?_)
    refine zv_aload_n C dX8_would_25 rfl rfl ?_
    refine zv_getR C dX8_would_26 f_X8_24 hd.1 rfl hd.2.2.2.2.2.2.2.2.2.2.1 ?_
    refine zv_iload_n C dX8_would_29 rfl ?_
    refine zv_iload_n C dX8_would_30 rfl ?_
    refine zv_cVv0_2 C dX8_would_31 k_X4_supposeRate l_X8_181 hc.1 rfl ⟨Nat.le_of_ble_eq_true rfl, Nat.le_of_ble_eq_true rfl⟩ ⟨rfl, rfl⟩ ⟨Nat.le_of_ble_eq_true rfl, Nat.le_of_ble_eq_true rfl⟩ rfl rfl ?_
    refine s_X4_supposeRate hc (by omega) (by omega) ?_
    refine zv_aload_n C dX8_would_34 rfl rfl ?_
    refine zv_getR C dX8_would_35 f_X8_24 hd.1 rfl hd.2.2.2.2.2.2.2.2.2.2.1 ?_
    refine zv_cVi0_0 C dX8_would_38 k_X4_net l_X8_185 hc.1 rfl ⟨Nat.le_of_ble_eq_true rfl, Nat.le_of_ble_eq_true rfl⟩ ⟨rfl, rfl⟩ ⟨Nat.le_of_ble_eq_true rfl, Nat.le_of_ble_eq_true rfl⟩ rfl rfl ?_
    refine s_X4_net (o := o) hc (mW_rate hW (by omega) (by omega) (by omega) (by omega) (by omega)) (cR_rate hW hv.r (y := y) (r := r) (by omega) (by omega) (by omega)) (by omega) (by omega) (by omega) (by omega) ?_
    refine zv_ireturn C dX8_would_41 rfl rfl rfl rfl ?_
    refine zpost ?_ (hp F1 _ ⟨fun a ha => (zfill_neF (by omega)).trans (fr.1 a ha), fr.2⟩)
    unfold aWould
    refine (if_pos b4).trans ?_
    unfold mBal
    rw [if_neg (by omega), if_neg (by omega), if_neg (by omega)]
  · refine zv_if_ne C 13 dX8_would_7 rfl (fun h => absurd h (by omega)) (fun _ => ?_)
    refine zv_ldc (x := -100000000) C dX8_would_10 c_X8_170 rfl ?_
    refine zv_ireturn C dX8_would_12 rfl rfl rfl rfl ?_
    refine zpost ?_ (hp FI AI cFr.rfl)
    unfold aWould
    exact if_neg b4
