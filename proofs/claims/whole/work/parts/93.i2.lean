set_option maxRecDepth 20000 in
theorem s_X8_enact {T : zTt} {FR : zFR} {AR : zAR} {FI : zFI} {AI : zAI} {Post : zPost} {B D B2 : Nat} {N : Int → Int} {nI nL : Nat} {o y r : Int} (hd : dLay T FR B D) (hc : cLay T FR) (hB : bLay T FR B) (hK : bk FI AI B N) (hW : mW N nI nL) (gB : 14 ≤ B) (hq : (AR 15 (FI 14 1) = some B2 ∧ bLay T FR B2) ∨ (AR 15 (FI 14 1) = none ∧ ∀ k, B2 ≤ k → k ≤ B2 + 4 → (T k).1 = 0)) (hz : B2 + 4 < zb) (gB2 : 17 ≤ B2) (a0 : 0 ≤ FI 14 1) (a1 : FI 14 1 < 10) (a2 : 0 ≤ FI 14 2) (a3 : FI 14 2 ≤ 10) (gd : B + 5 ≤ B2 ∨ B2 + 5 ≤ B) (gB3 : 14 < B) (hn : ¬ okEn N o y r → Post (zI (-1)) T FR AR FI AI) (hp : okEn N o y r → ∀ (T1 : zTt) (FR1 : zFR) (AR1 : zAR) (F1 : zFI) (A1 : zAI), kpR B2 T T1 FR FR1 AR AR1 FI F1 AI A1 N → ∀ (F2 : zFI) (A2 : zAI), bFr B F1 F2 A1 A2 → bk F2 A2 B (zfl N (5 + 40 * o + y) (5 + 40 * o + 40) r) → Post (zI (N (5 + 40 * o + y))) T1 FR1 AR1 F2 A2) : zMet M_X8_enact [zR 0, zI o, zI y, zI r] T FR AR FI AI Post := by
  refine zMet.of [some (zR 0), some (zI o), some (zI y), some (zI r), none] rfl rfl rfl (fun G C => ?_)
  obtain ⟨k0, k1, k2, k3, k4, k5, k6, k7, k8⟩ := id hK
  obtain ⟨w0, w1, w2, w3, w4, w5, w6, w7, w8, w9⟩ := id hW
  refine zv_aload_n C dX8_enact_0 rfl rfl ?_
  refine zv_iload_n C dX8_enact_1 rfl ?_
  refine zv_iload_n C dX8_enact_2 rfl ?_
  refine zv_iload_n C dX8_enact_3 rfl ?_
  refine zv_cVi0_3 C dX8_enact_4 k_X8_mayBeEnacted l_X8_177 hd.1 rfl ⟨Nat.le_of_ble_eq_true rfl, Nat.le_of_ble_eq_true rfl⟩ ⟨rfl, rfl⟩ ⟨Nat.le_of_ble_eq_true rfl, Nat.le_of_ble_eq_true rfl⟩ rfl rfl ?_
  refine s_X8_mayBeEnacted hd hc hB hK hW gB (fun b4 => ?_) (fun b4 => ?_)
  · refine zv_if_ne C 12 dX8_enact_7 rfl (fun _ => ?_) (fun h => absurd h (by omega))
    refine zv_aload_n C dX8_enact_12 rfl rfl ?_
    refine zv_getR C dX8_enact_13 f_X8_31 hd.1 rfl hd.2.2.2.2.2.2.2.2.2.2.2.1 ?_
    refine zv_aload_n C dX8_enact_16 rfl rfl ?_
    refine zv_getR C dX8_enact_17 f_X8_44 hd.1 rfl hd.2.2.2.2.2.2.2.2.2.2.2.2.2.1 ?_
    refine zv_cVvn_1 C dX8_enact_20 k_X1_keep l_X8_194 hd.2.2.2.2.2.1 rfl ⟨Nat.le_of_ble_eq_true rfl, Nat.le_of_ble_eq_true rfl⟩ 5 439 ⟨rfl, rfl⟩ ⟨Nat.le_of_ble_eq_true rfl, Nat.le_of_ble_eq_true rfl⟩ rfl rfl ?_
    have b5 := id b4
    unfold okEn at b5
    refine s_X1_keep hd hB hq hz gB2 a0 a1 a2 a3 hK (by omega) gd (fun T1 FR1 AR1 F1 A1 kp => ?_)
    have hd := kpR_d kp hd gB2
    have hB := kpR_lay kp hB gd
    have hK1 := kpR_bk kp hK gd gB3
    obtain ⟨k0, k1, k2, k3, k4, k5, k6, k7, k8⟩ := id hK1
    refine zv_aload_n C dX8_enact_23 rfl rfl ?_
    refine zv_getR C dX8_enact_24 f_X8_44 hd.1 rfl hd.2.2.2.2.2.2.2.2.2.2.2.2.2.1 ?_
    refine zv_getR C dX8_enact_27 f_X8_138 hB.1 rfl hB.2.2.2.2.2.1 ?_
    refine zv_iload_n C dX8_enact_30 rfl ?_
    refine zv_bipush C dX8_enact_31 rfl ?_
    refine zv_imul C dX8_enact_33 ⟨by omega, by omega⟩ ?_
    refine zv_iload_n C dX8_enact_34 rfl ?_
    refine zv_iadd C dX8_enact_35 ⟨by omega, by omega⟩ ?_
    refine zv_iaload C dX8_enact_36 hB.2.1 ⟨by omega, by omega⟩ ?_
    rw [k5 o y (by omega) (by omega) (by omega) (by omega)]
    refine zv_istore_4 C dX8_enact_37 rfl rfl ?_
    refine zv_aload_n C dX8_enact_39 rfl rfl ?_
    refine zv_getR C dX8_enact_40 f_X8_44 hd.1 rfl hd.2.2.2.2.2.2.2.2.2.2.2.2.2.1 ?_
    refine zv_iload_n C dX8_enact_43 rfl ?_
    refine zv_iload_n C dX8_enact_44 rfl ?_
    refine zv_iload_n C dX8_enact_45 rfl ?_
    refine zv_cVv0_3 C dX8_enact_46 k_X2_setRate l_X8_198 hB.1 rfl ⟨Nat.le_of_ble_eq_true rfl, Nat.le_of_ble_eq_true rfl⟩ ⟨rfl, rfl⟩ ⟨Nat.le_of_ble_eq_true rfl, Nat.le_of_ble_eq_true rfl⟩ rfl rfl ?_
    refine s_X2_setRate hB (by omega) (by omega) (by omega) (by omega) ?_
    refine zv_iload C dX8_enact_49 rfl ?_
    refine zv_ireturn C dX8_enact_51 rfl rfl rfl rfl ?_
    exact hp b4 T1 FR1 AR1 F1 A1 kp F1 _ ⟨fun _ _ _ => rfl, fun a ha => zfill_neF (by omega)⟩ (bk_rate hK1 (by omega) (by omega) (by omega) (by omega))
  · refine zv_if_ne C 12 dX8_enact_7 rfl (fun h => absurd h (by omega)) (fun _ => ?_)
    refine zv_iconst C dX8_enact_10 rfl ?_
    refine zv_ireturn C dX8_enact_11 rfl rfl rfl rfl ?_
    exact hn b4
set_option maxRecDepth 20000 in
theorem s_X8_expect {T : zTt} {FR : zFR} {AR : zAR} {FI : zFI} {AI : zAI} {Post : zPost} {B D B2 : Nat} {N : Int → Int} {nI nL : Nat} {o y s : Int} (hd : dLay T FR B D) (hc : cLay T FR) (hB : bLay T FR B) (hK : bk FI AI B N) (hW : mW N nI nL) (gB : 14 ≤ B) (hq : (AR 15 (FI 14 1) = some B2 ∧ bLay T FR B2) ∨ (AR 15 (FI 14 1) = none ∧ ∀ k, B2 ≤ k → k ≤ B2 + 4 → (T k).1 = 0)) (hz : B2 + 4 < zb) (gB2 : 17 ≤ B2) (a0 : 0 ≤ FI 14 1) (a1 : FI 14 1 < 10) (a2 : 0 ≤ FI 14 2) (a3 : FI 14 2 ≤ 10) (gd : B + 5 ≤ B2 ∨ B2 + 5 ≤ B) (gB3 : 14 < B) (hn : ¬ ((0 ≤ o ∧ o ≤ N 2 - 1) ∧ (N 0 ≤ y ∧ y ≤ 39) ∧ (0 ≤ s ∧ s ≤ 99999)) → Post (zI (-1)) T FR AR FI AI) (hp : ((0 ≤ o ∧ o ≤ N 2 - 1) ∧ (N 0 ≤ y ∧ y ≤ 39) ∧ (0 ≤ s ∧ s ≤ 99999)) → ∀ (T1 : zTt) (FR1 : zFR) (AR1 : zAR) (F1 : zFI) (A1 : zAI), kpR B2 T T1 FR FR1 AR AR1 FI F1 AI A1 N → ∀ (F2 : zFI) (A2 : zAI), bFr B F1 F2 A1 A2 → bk F2 A2 B (nExpect N o y s) → Post (zI (N (125 + 40 * o + y))) T1 FR1 AR1 F2 A2) : zMet M_X8_expect [zR 0, zI o, zI y, zI s] T FR AR FI AI Post := by
  refine zMet.of [some (zR 0), some (zI o), some (zI y), some (zI s), none] rfl rfl rfl (fun G C => ?_)
  obtain ⟨k0, k1, k2, k3, k4, k5, k6, k7, k8⟩ := id hK
  obtain ⟨w0, w1, w2, w3, w4, w5, w6, w7, w8, w9⟩ := id hW
  refine zv_aload_n C dX8_expect_0 rfl rfl ?_
  refine zv_iload_n C dX8_expect_1 rfl ?_
  refine zv_iload_n C dX8_expect_2 rfl ?_
  refine zv_cVi0_2 C dX8_expect_3 k_X8_isYearNotClosed l_X8_202 hd.1 rfl ⟨Nat.le_of_ble_eq_true rfl, Nat.le_of_ble_eq_true rfl⟩ ⟨rfl, rfl⟩ ⟨Nat.le_of_ble_eq_true rfl, Nat.le_of_ble_eq_true rfl⟩ rfl rfl ?_
  refine s_X8_isYearNotClosed hd hc hB hK hW gB (fun b3 => ?_) (fun b3 => ?_)
  · refine zv_if_eq C 19 dX8_expect_6 rfl (fun h => absurd h (by omega)) (fun _ => ?_)
    refine zv_iload_n C dX8_expect_9 rfl ?_
    refine zv_if_lt C 19 dX8_expect_10 rfl (fun h10 => ?_) (fun h10 => ?_)
    · refine zv_iconst C dX8_expect_19 rfl ?_
      refine zv_ireturn C dX8_expect_20 rfl rfl rfl rfl ?_
      exact hn (by omega)
    · refine zv_iload_n C dX8_expect_13 rfl ?_
      refine zv_ldc (x := 99999) C dX8_expect_14 c_X8_205 rfl ?_
      refine zv_icmp_le C 21 dX8_expect_16 rfl (fun h16 => ?_) (fun h16 => ?_)
      · refine zv_aload_n C dX8_expect_21 rfl rfl ?_
        refine zv_getR C dX8_expect_22 f_X8_31 hd.1 rfl hd.2.2.2.2.2.2.2.2.2.2.2.1 ?_
        refine zv_aload_n C dX8_expect_25 rfl rfl ?_
        refine zv_getR C dX8_expect_26 f_X8_44 hd.1 rfl hd.2.2.2.2.2.2.2.2.2.2.2.2.2.1 ?_
        refine zv_cVvn_1 C dX8_expect_29 k_X1_keep l_X8_194 hd.2.2.2.2.2.1 rfl ⟨Nat.le_of_ble_eq_true rfl, Nat.le_of_ble_eq_true rfl⟩ 5 439 ⟨rfl, rfl⟩ ⟨Nat.le_of_ble_eq_true rfl, Nat.le_of_ble_eq_true rfl⟩ rfl rfl ?_
        refine s_X1_keep hd hB hq hz gB2 a0 a1 a2 a3 hK (by omega) gd (fun T1 FR1 AR1 F1 A1 kp => ?_)
        have hd := kpR_d kp hd gB2
        have hB := kpR_lay kp hB gd
        have hK1 := kpR_bk kp hK gd gB3
        obtain ⟨k0, k1, k2, k3, k4, k5, k6, k7, k8⟩ := id hK1
        refine zv_aload_n C dX8_expect_32 rfl rfl ?_
        refine zv_getR C dX8_expect_33 f_X8_44 hd.1 rfl hd.2.2.2.2.2.2.2.2.2.2.2.2.2.1 ?_
        refine zv_getR C dX8_expect_36 f_X8_206 hB.1 rfl hB.2.2.2.2.2.2.1 ?_
        refine zv_iload_n C dX8_expect_39 rfl ?_
        refine zv_bipush C dX8_expect_40 rfl ?_
        refine zv_imul C dX8_expect_42 ⟨by omega, by omega⟩ ?_
        refine zv_iload_n C dX8_expect_43 rfl ?_
        refine zv_iadd C dX8_expect_44 ⟨by omega, by omega⟩ ?_
        refine zv_iaload C dX8_expect_45 hB.2.2.1 ⟨by omega, by omega⟩ ?_
        rw [k6 o y (by omega) (by omega) (by omega) (by omega)]
        refine zv_istore_4 C dX8_expect_46 rfl rfl ?_
        refine zv_aload_n C dX8_expect_48 rfl rfl ?_
        refine zv_getR C dX8_expect_49 f_X8_44 hd.1 rfl hd.2.2.2.2.2.2.2.2.2.2.2.2.2.1 ?_
        refine zv_getR C dX8_expect_52 f_X8_206 hB.1 rfl hB.2.2.2.2.2.2.1 ?_
        refine zv_iload_n C dX8_expect_55 rfl ?_
        refine zv_bipush C dX8_expect_56 rfl ?_
        refine zv_imul C dX8_expect_58 ⟨by omega, by omega⟩ ?_
        refine zv_iload_n C dX8_expect_59 rfl ?_
        refine zv_iadd C dX8_expect_60 ⟨by omega, by omega⟩ ?_
        refine zv_iload_n C dX8_expect_61 rfl ?_
        refine zv_iastore C dX8_expect_62 hB.2.2.1 ⟨by omega, by omega⟩ ?_
        refine zv_iload C dX8_expect_63 rfl ?_
        refine zv_ireturn C dX8_expect_65 rfl rfl rfl rfl ?_
        exact hp (by omega) T1 FR1 AR1 F1 A1 kp F1 _ (bFr.rfl.setA ⟨by omega, by omega⟩) (bk_profit hK1 (by omega) (by omega) (by omega) (by omega) (by omega))
      · refine zv_iconst C dX8_expect_19 rfl ?_
        refine zv_ireturn C dX8_expect_20 rfl rfl rfl rfl ?_
        exact hn (by omega)
  · refine zv_if_eq C 19 dX8_expect_6 rfl (fun _ => ?_) (fun h => absurd h (by omega))
    refine zv_iconst C dX8_expect_19 rfl ?_
    refine zv_ireturn C dX8_expect_20 rfl rfl rfl rfl ?_
    exact hn (by omega)
set_option maxRecDepth 20000 in
theorem s_X8_arises {T : zTt} {FR : zFR} {AR : zAR} {FI : zFI} {AI : zAI} {Post : zPost} {B D B2 : Nat} {N : Int → Int} {nI nL : Nat} {o tx s f l : Int} (hd : dLay T FR B D) (hc : cLay T FR) (hB : bLay T FR B) (hK : bk FI AI B N) (hW : mW N nI nL) (gB : 14 ≤ B) (hq : (AR 15 (FI 14 1) = some B2 ∧ bLay T FR B2) ∨ (AR 15 (FI 14 1) = none ∧ ∀ k, B2 ≤ k → k ≤ B2 + 4 → (T k).1 = 0)) (hz : B2 + 4 < zb) (gB2 : 17 ≤ B2) (a0 : 0 ≤ FI 14 1) (a1 : FI 14 1 < 10) (a2 : 0 ≤ FI 14 2) (a3 : FI 14 2 ≤ 10) (gd : B + 5 ≤ B2 ∨ B2 + 5 ≤ B) (gB3 : 14 < B) (h2 : ((0 ≤ o ∧ o ≤ N 2 - 1) ∧ (1 ≤ s ∧ s ≤ 99999) ∧ (N 0 + 1 ≤ f ∧ f ≤ 39) ∧ (f ≤ l ∧ l ≤ 39)) → N 3 = 30 → Post (zI (-2)) T FR AR FI AI) (hn : ¬ ((0 ≤ o ∧ o ≤ N 2 - 1) ∧ (1 ≤ s ∧ s ≤ 99999) ∧ (N 0 + 1 ≤ f ∧ f ≤ 39) ∧ (f ≤ l ∧ l ≤ 39)) → Post (zI (-1)) T FR AR FI AI) (hp : ((0 ≤ o ∧ o ≤ N 2 - 1) ∧ (1 ≤ s ∧ s ≤ 99999) ∧ (N 0 + 1 ≤ f ∧ f ≤ 39) ∧ (f ≤ l ∧ l ≤ 39)) → N 3 < 30 → ∀ (T1 : zTt) (FR1 : zFR) (AR1 : zAR) (F1 : zFI) (A1 : zAI), kpR B2 T T1 FR FR1 AR AR1 FI F1 AI A1 N → ∀ (F2 : zFI) (A2 : zAI), bFr B F1 F2 A1 A2 → bk F2 A2 B (nArise N o (if tx = 0 then 0 else 1) s f l) → Post (zI (N 3)) T1 FR1 AR1 F2 A2) : zMet M_X8_arises [zR 0, zI o, zI tx, zI s, zI f, zI l] T FR AR FI AI Post := by
  refine zMet.of [some (zR 0), some (zI o), some (zI tx), some (zI s), some (zI f), some (zI l)] rfl rfl rfl (fun G C => ?_)
  obtain ⟨k0, k1, k2, k3, k4, k5, k6, k7, k8⟩ := id hK
  obtain ⟨w0, w1, w2, w3, w4, w5, w6, w7, w8, w9⟩ := id hW
  refine zv_aload_n C dX8_arises_0 rfl rfl ?_
  refine zv_iload_n C dX8_arises_1 rfl ?_
  refine zv_iload C dX8_arises_2 rfl ?_
  refine zv_cVi0_2 C dX8_arises_4 k_X8_isYearToCome l_X8_141 hd.1 rfl ⟨Nat.le_of_ble_eq_true rfl, Nat.le_of_ble_eq_true rfl⟩ ⟨rfl, rfl⟩ ⟨Nat.le_of_ble_eq_true rfl, Nat.le_of_ble_eq_true rfl⟩ rfl rfl ?_
  refine s_X8_isYearToCome hd hc hB hK hW gB (fun b3 => ?_) (fun b3 => ?_)
  · refine zv_if_eq C 31 dX8_arises_7 rfl (fun h => absurd h (by omega)) (fun _ => ?_)
    refine zv_iload_n C dX8_arises_10 rfl ?_
    refine zv_cSi0_1 C dX8_arises_11 k_X8_isSum l_X8_209 ⟨Nat.le_of_ble_eq_true rfl, Nat.le_of_ble_eq_true rfl⟩ ⟨rfl, rfl⟩ ⟨Nat.le_of_ble_eq_true rfl, Nat.le_of_ble_eq_true rfl⟩ rfl rfl ?_
    refine s_X8_isSum (fun b11 => ?_) (fun b11 => ?_)
    · refine zv_if_eq C 31 dX8_arises_14 rfl (fun h => absurd h (by omega)) (fun _ => ?_)
      refine zv_iload C dX8_arises_17 rfl ?_
      refine zv_iload C dX8_arises_19 rfl ?_
      refine zv_icmp_lt C 31 dX8_arises_21 rfl (fun h21 => ?_) (fun h21 => ?_)
      · refine zv_iconst C dX8_arises_31 rfl ?_
        refine zv_ireturn C dX8_arises_32 rfl rfl rfl rfl ?_
        exact hn (by omega)
      · refine zv_iload C dX8_arises_24 rfl ?_
        refine zv_bipush C dX8_arises_26 rfl ?_
        refine zv_icmp_le C 33 dX8_arises_28 rfl (fun h28 => ?_) (fun h28 => ?_)
        · refine zv_aload_n C dX8_arises_33 rfl rfl ?_
          refine zv_getR C dX8_arises_34 f_X8_44 hd.1 rfl hd.2.2.2.2.2.2.2.2.2.2.2.2.2.1 ?_
          refine zv_getI C dX8_arises_37 f_X8_87 hB.1 rfl ?_
          refine zv_bipush C dX8_arises_40 rfl ?_
          refine zv_icmp_lt C 48 dX8_arises_42 rfl (fun h42 => ?_) (fun h42 => ?_)
          · refine zv_aload_n C dX8_arises_48 rfl rfl ?_
            refine zv_getR C dX8_arises_49 f_X8_31 hd.1 rfl hd.2.2.2.2.2.2.2.2.2.2.2.1 ?_
            refine zv_aload_n C dX8_arises_52 rfl rfl ?_
            refine zv_getR C dX8_arises_53 f_X8_44 hd.1 rfl hd.2.2.2.2.2.2.2.2.2.2.2.2.2.1 ?_
            refine zv_cVvn_1 C dX8_arises_56 k_X1_keep l_X8_194 hd.2.2.2.2.2.1 rfl ⟨Nat.le_of_ble_eq_true rfl, Nat.le_of_ble_eq_true rfl⟩ 5 439 ⟨rfl, rfl⟩ ⟨Nat.le_of_ble_eq_true rfl, Nat.le_of_ble_eq_true rfl⟩ rfl rfl ?_
            refine s_X1_keep hd hB hq hz gB2 a0 a1 a2 a3 hK (by omega) gd (fun T1 FR1 AR1 F1 A1 kp => ?_)
            have hd := kpR_d kp hd gB2
            have hB := kpR_lay kp hB gd
            have hK1 := kpR_bk kp hK gd gB3
            obtain ⟨k0, k1, k2, k3, k4, k5, k6, k7, k8⟩ := id hK1
            refine zv_aload_n C dX8_arises_59 rfl rfl ?_
            refine zv_getR C dX8_arises_60 f_X8_44 hd.1 rfl hd.2.2.2.2.2.2.2.2.2.2.2.2.2.1 ?_
            refine zv_iload_n C dX8_arises_63 rfl ?_
            refine zv_iload_n C dX8_arises_64 rfl ?_
            refine zv_iload_n C dX8_arises_65 rfl ?_
            refine zv_iload C dX8_arises_66 rfl ?_
            refine zv_iload C dX8_arises_68 rfl ?_
            refine zv_cVi0_5 C dX8_arises_70 k_X2_addItem l_X8_212 hB.1 rfl ⟨Nat.le_of_ble_eq_true rfl, Nat.le_of_ble_eq_true rfl⟩ ⟨rfl, rfl⟩ ⟨Nat.le_of_ble_eq_true rfl, Nat.le_of_ble_eq_true rfl⟩ rfl rfl ?_
            refine s_X2_addItem hB hK1 (by omega) (fun F2 A2 f2 kk => ?_)
            refine zv_ireturn C dX8_arises_73 rfl rfl rfl rfl ?_
            exact hp (by omega) (by omega) T1 FR1 AR1 F1 A1 kp F2 A2 f2 kk
          · refine zv_bipush C dX8_arises_45 rfl ?_
            refine zv_ireturn C dX8_arises_47 rfl rfl rfl rfl ?_
            exact h2 (by omega) (by omega)
        · refine zv_iconst C dX8_arises_31 rfl ?_
          refine zv_ireturn C dX8_arises_32 rfl rfl rfl rfl ?_
          exact hn (by omega)
    · refine zv_if_eq C 31 dX8_arises_14 rfl (fun _ => ?_) (fun h => absurd h (by omega))
      refine zv_iconst C dX8_arises_31 rfl ?_
      refine zv_ireturn C dX8_arises_32 rfl rfl rfl rfl ?_
      exact hn (by omega)
  · refine zv_if_eq C 31 dX8_arises_7 rfl (fun _ => ?_) (fun h => absurd h (by omega))
    refine zv_iconst C dX8_arises_31 rfl ?_
    refine zv_ireturn C dX8_arises_32 rfl rfl rfl rfl ?_
    exact hn (by omega)
set_option maxRecDepth 20000 in
theorem s_X8_loses {T : zTt} {FR : zFR} {AR : zAR} {FI : zFI} {AI : zAI} {Post : zPost} {B D B2 : Nat} {N : Int → Int} {nI nL : Nat} {o s l : Int} (hd : dLay T FR B D) (hc : cLay T FR) (hB : bLay T FR B) (hK : bk FI AI B N) (hW : mW N nI nL) (gB : 14 ≤ B) (hq : (AR 15 (FI 14 1) = some B2 ∧ bLay T FR B2) ∨ (AR 15 (FI 14 1) = none ∧ ∀ k, B2 ≤ k → k ≤ B2 + 4 → (T k).1 = 0)) (hz : B2 + 4 < zb) (gB2 : 17 ≤ B2) (a0 : 0 ≤ FI 14 1) (a1 : FI 14 1 < 10) (a2 : 0 ≤ FI 14 2) (a3 : FI 14 2 ≤ 10) (gd : B + 5 ≤ B2 ∨ B2 + 5 ≤ B) (gB3 : 14 < B) (h2 : ((0 ≤ o ∧ o ≤ N 2 - 1) ∧ (1 ≤ s ∧ s ≤ 99999) ∧ (N 0 + 1 ≤ l ∧ l ≤ 39)) → N 4 = 10 → Post (zI (-2)) T FR AR FI AI) (hn : ¬ ((0 ≤ o ∧ o ≤ N 2 - 1) ∧ (1 ≤ s ∧ s ≤ 99999) ∧ (N 0 + 1 ≤ l ∧ l ≤ 39)) → Post (zI (-1)) T FR AR FI AI) (hp : ((0 ≤ o ∧ o ≤ N 2 - 1) ∧ (1 ≤ s ∧ s ≤ 99999) ∧ (N 0 + 1 ≤ l ∧ l ≤ 39)) → N 4 < 10 → ∀ (T1 : zTt) (FR1 : zFR) (AR1 : zAR) (F1 : zFI) (A1 : zAI), kpR B2 T T1 FR FR1 AR AR1 FI F1 AI A1 N → ∀ (F2 : zFI) (A2 : zAI), bFr B F1 F2 A1 A2 → bk F2 A2 B (nLoss N o s l) → Post (zI (N 4)) T1 FR1 AR1 F2 A2) : zMet M_X8_loses [zR 0, zI o, zI s, zI l] T FR AR FI AI Post := by
  refine zMet.of [some (zR 0), some (zI o), some (zI s), some (zI l)] rfl rfl rfl (fun G C => ?_)
  obtain ⟨k0, k1, k2, k3, k4, k5, k6, k7, k8⟩ := id hK
  obtain ⟨w0, w1, w2, w3, w4, w5, w6, w7, w8, w9⟩ := id hW
  refine zv_aload_n C dX8_loses_0 rfl rfl ?_
  refine zv_iload_n C dX8_loses_1 rfl ?_
  refine zv_iload_n C dX8_loses_2 rfl ?_
  refine zv_cVi0_2 C dX8_loses_3 k_X8_isYearToCome l_X8_141 hd.1 rfl ⟨Nat.le_of_ble_eq_true rfl, Nat.le_of_ble_eq_true rfl⟩ ⟨rfl, rfl⟩ ⟨Nat.le_of_ble_eq_true rfl, Nat.le_of_ble_eq_true rfl⟩ rfl rfl ?_
  refine s_X8_isYearToCome hd hc hB hK hW gB (fun b3 => ?_) (fun b3 => ?_)
  · refine zv_if_eq C 16 dX8_loses_6 rfl (fun h => absurd h (by omega)) (fun _ => ?_)
    refine zv_iload_n C dX8_loses_9 rfl ?_
    refine zv_cSi0_1 C dX8_loses_10 k_X8_isSum l_X8_209 ⟨Nat.le_of_ble_eq_true rfl, Nat.le_of_ble_eq_true rfl⟩ ⟨rfl, rfl⟩ ⟨Nat.le_of_ble_eq_true rfl, Nat.le_of_ble_eq_true rfl⟩ rfl rfl ?_
    refine s_X8_isSum (fun b11 => ?_) (fun b11 => ?_)
    · refine zv_if_ne C 18 dX8_loses_13 rfl (fun _ => ?_) (fun h => absurd h (by omega))
      refine zv_aload_n C dX8_loses_18 rfl rfl ?_
      refine zv_getR C dX8_loses_19 f_X8_44 hd.1 rfl hd.2.2.2.2.2.2.2.2.2.2.2.2.2.1 ?_
      refine zv_getI C dX8_loses_22 f_X8_90 hB.1 rfl ?_
      refine zv_bipush C dX8_loses_25 rfl ?_
      refine zv_icmp_lt C 33 dX8_loses_27 rfl (fun h27 => ?_) (fun h27 => ?_)
      · refine zv_aload_n C dX8_loses_33 rfl rfl ?_
        refine zv_getR C dX8_loses_34 f_X8_31 hd.1 rfl hd.2.2.2.2.2.2.2.2.2.2.2.1 ?_
        refine zv_aload_n C dX8_loses_37 rfl rfl ?_
        refine zv_getR C dX8_loses_38 f_X8_44 hd.1 rfl hd.2.2.2.2.2.2.2.2.2.2.2.2.2.1 ?_
        refine zv_cVvn_1 C dX8_loses_41 k_X1_keep l_X8_194 hd.2.2.2.2.2.1 rfl ⟨Nat.le_of_ble_eq_true rfl, Nat.le_of_ble_eq_true rfl⟩ 5 439 ⟨rfl, rfl⟩ ⟨Nat.le_of_ble_eq_true rfl, Nat.le_of_ble_eq_true rfl⟩ rfl rfl ?_
        refine s_X1_keep hd hB hq hz gB2 a0 a1 a2 a3 hK (by omega) gd (fun T1 FR1 AR1 F1 A1 kp => ?_)
        have hd := kpR_d kp hd gB2
        have hB := kpR_lay kp hB gd
        have hK1 := kpR_bk kp hK gd gB3
        obtain ⟨k0, k1, k2, k3, k4, k5, k6, k7, k8⟩ := id hK1
        refine zv_aload_n C dX8_loses_44 rfl rfl ?_
        refine zv_getR C dX8_loses_45 f_X8_44 hd.1 rfl hd.2.2.2.2.2.2.2.2.2.2.2.2.2.1 ?_
        refine zv_iload_n C dX8_loses_48 rfl ?_
        refine zv_iload_n C dX8_loses_49 rfl ?_
        refine zv_iload_n C dX8_loses_50 rfl ?_
        refine zv_cVi0_3 C dX8_loses_51 k_X2_addLoss l_X8_219 hB.1 rfl ⟨Nat.le_of_ble_eq_true rfl, Nat.le_of_ble_eq_true rfl⟩ ⟨rfl, rfl⟩ ⟨Nat.le_of_ble_eq_true rfl, Nat.le_of_ble_eq_true rfl⟩ rfl rfl ?_
        refine s_X2_addLoss hB hK1 (by omega) (fun F2 A2 f2 kk => ?_)
        refine zv_ireturn C dX8_loses_54 rfl rfl rfl rfl ?_
        exact hp (by omega) (by omega) T1 FR1 AR1 F1 A1 kp F2 A2 f2 kk
      · refine zv_bipush C dX8_loses_30 rfl ?_
        refine zv_ireturn C dX8_loses_32 rfl rfl rfl rfl ?_
        exact h2 (by omega) (by omega)
    · refine zv_if_ne C 18 dX8_loses_13 rfl (fun h => absurd h (by omega)) (fun _ => ?_)
      refine zv_iconst C dX8_loses_16 rfl ?_
      refine zv_ireturn C dX8_loses_17 rfl rfl rfl rfl ?_
      exact hn (by omega)
  · refine zv_if_eq C 16 dX8_loses_6 rfl (fun _ => ?_) (fun h => absurd h (by omega))
    refine zv_iconst C dX8_loses_16 rfl ?_
    refine zv_ireturn C dX8_loses_17 rfl rfl rfl rfl ?_
    exact hn (by omega)
set_option maxRecDepth 20000 in
theorem s_X8_settle {T : zTt} {FR : zFR} {AR : zAR} {FI : zFI} {AI : zAI} {Post : zPost} {B D B2 : Nat} {N : Int → Int} {nI nL : Nat} {i : Int} (hd : dLay T FR B D) (hc : cLay T FR) (hB : bLay T FR B) (hK : bk FI AI B N) (hW : mW N nI nL) (gB : 14 ≤ B) (hq : (AR 15 (FI 14 1) = some B2 ∧ bLay T FR B2) ∨ (AR 15 (FI 14 1) = none ∧ ∀ k, B2 ≤ k → k ≤ B2 + 4 → (T k).1 = 0)) (hz : B2 + 4 < zb) (gB2 : 17 ≤ B2) (a0 : 0 ≤ FI 14 1) (a1 : FI 14 1 < 10) (a2 : 0 ≤ FI 14 2) (a3 : FI 14 2 ≤ 10) (gd : B + 5 ≤ B2 ∨ B2 + 5 ≤ B) (gB3 : 14 < B) (hn : ¬ ((0 ≤ i ∧ i ≤ N 3 - 1) ∧ zOpen (mIt N) (N 0) i ≠ 0 ∧ N 0 ≠ 39) → Post (zI (-1)) T FR AR FI AI) (hp : ((0 ≤ i ∧ i ≤ N 3 - 1) ∧ zOpen (mIt N) (N 0) i ≠ 0 ∧ N 0 ≠ 39) → ∀ (T1 : zTt) (FR1 : zFR) (AR1 : zAR) (F1 : zFI) (A1 : zAI), kpR B2 T T1 FR FR1 AR AR1 FI F1 AI A1 N → ∀ (F2 : zFI) (A2 : zAI), bFr B F1 F2 A1 A2 → bk F2 A2 B (nSettle N i) → Post (zI (zOpen (mIt N) (N 0) i)) T1 FR1 AR1 F2 A2) : zMet M_X8_settle [zR 0, zI i] T FR AR FI AI Post := by
  refine zMet.of [some (zR 0), some (zI i), none] rfl rfl rfl (fun G C => ?_)
  obtain ⟨k0, k1, k2, k3, k4, k5, k6, k7, k8⟩ := id hK
  obtain ⟨w0, w1, w2, w3, w4, w5, w6, w7, w8, w9⟩ := id hW
  refine zv_aload_n C dX8_settle_0 rfl rfl ?_
  refine zv_getR C dX8_settle_1 f_X8_44 hd.1 rfl hd.2.2.2.2.2.2.2.2.2.2.2.2.2.1 ?_
  refine zv_iload_n C dX8_settle_4 rfl ?_
  refine zv_cVi0_1 C dX8_settle_5 k_X2_hasItem l_X8_100 hB.1 rfl ⟨Nat.le_of_ble_eq_true rfl, Nat.le_of_ble_eq_true rfl⟩ ⟨rfl, rfl⟩ ⟨Nat.le_of_ble_eq_true rfl, Nat.le_of_ble_eq_true rfl⟩ rfl rfl ?_
  refine s_X2_hasItem hB hK (fun b5 => ?_) (fun b5 => ?_)
  · refine zv_if_eq C 23 dX8_settle_8 rfl (fun h => absurd h (by omega)) (fun _ => ?_)
    refine zv_aload_n C dX8_settle_11 rfl rfl ?_
    refine zv_getR C dX8_settle_12 f_X8_44 hd.1 rfl hd.2.2.2.2.2.2.2.2.2.2.2.2.2.1 ?_
    refine zv_getI C dX8_settle_15 f_X8_78 hB.1 rfl ?_
    refine zv_bipush C dX8_settle_18 rfl ?_
    refine zv_icmp_lt C 25 dX8_settle_20 rfl (fun h20 => ?_) (fun h20 => ?_)
    · refine zv_aload_n C dX8_settle_25 rfl rfl ?_
      refine zv_getR C dX8_settle_26 f_X8_44 hd.1 rfl hd.2.2.2.2.2.2.2.2.2.2.2.2.2.1 ?_
      refine zv_iload_n C dX8_settle_29 rfl ?_
      refine zv_cVi0_1 C dX8_settle_30 k_X2_openOf l_X8_115 hB.1 rfl ⟨Nat.le_of_ble_eq_true rfl, Nat.le_of_ble_eq_true rfl⟩ ⟨rfl, rfl⟩ ⟨Nat.le_of_ble_eq_true rfl, Nat.le_of_ble_eq_true rfl⟩ rfl rfl ?_
      refine s_X2_openOf hB hK (by omega) (by omega) (by omega) (w8 i (by omega) (by omega)) (by omega) (by omega) ?_
      refine zv_istore_2 C dX8_settle_33 rfl rfl ?_
      refine zv_iload_n C dX8_settle_34 rfl ?_
      refine zv_if_ne C 40 dX8_settle_35 rfl (fun h35 => ?_) (fun h35 => ?_)
      · refine zv_aload_n C dX8_settle_40 rfl rfl ?_
        refine zv_getR C dX8_settle_41 f_X8_31 hd.1 rfl hd.2.2.2.2.2.2.2.2.2.2.2.1 ?_
        refine zv_aload_n C dX8_settle_44 rfl rfl ?_
        refine zv_getR C dX8_settle_45 f_X8_44 hd.1 rfl hd.2.2.2.2.2.2.2.2.2.2.2.2.2.1 ?_
        refine zv_cVvn_1 C dX8_settle_48 k_X1_keep l_X8_194 hd.2.2.2.2.2.1 rfl ⟨Nat.le_of_ble_eq_true rfl, Nat.le_of_ble_eq_true rfl⟩ 5 439 ⟨rfl, rfl⟩ ⟨Nat.le_of_ble_eq_true rfl, Nat.le_of_ble_eq_true rfl⟩ rfl rfl ?_
        refine s_X1_keep hd hB hq hz gB2 a0 a1 a2 a3 hK (by omega) gd (fun T1 FR1 AR1 F1 A1 kp => ?_)
        have hd := kpR_d kp hd gB2
        have hB := kpR_lay kp hB gd
        have hK1 := kpR_bk kp hK gd gB3
        obtain ⟨k0, k1, k2, k3, k4, k5, k6, k7, k8⟩ := id hK1
        refine zv_aload_n C dX8_settle_51 rfl rfl ?_
        refine zv_getR C dX8_settle_52 f_X8_44 hd.1 rfl hd.2.2.2.2.2.2.2.2.2.2.2.2.2.1 ?_
        refine zv_iload_n C dX8_settle_55 rfl ?_
        refine zv_iload_n C dX8_settle_56 rfl ?_
        refine zv_cVv0_2 C dX8_settle_57 k_X2_bringForward l_X8_216 hB.1 rfl ⟨Nat.le_of_ble_eq_true rfl, Nat.le_of_ble_eq_true rfl⟩ ⟨rfl, rfl⟩ ⟨Nat.le_of_ble_eq_true rfl, Nat.le_of_ble_eq_true rfl⟩ rfl rfl ?_
        refine s_X2_bringForward hB hK1 hW (by omega) (by omega) rfl (fun A2 f2 kk => ?_)
        refine zv_iload_n C dX8_settle_60 rfl ?_
        refine zv_ireturn C dX8_settle_61 rfl rfl rfl rfl ?_
        exact hp (by omega) T1 FR1 AR1 F1 A1 kp F1 A2 f2 kk
      · refine zv_iconst C dX8_settle_38 rfl ?_
        refine zv_ireturn C dX8_settle_39 rfl rfl rfl rfl ?_
        exact hn (by omega)
    · refine zv_iconst C dX8_settle_23 rfl ?_
      refine zv_ireturn C dX8_settle_24 rfl rfl rfl rfl ?_
      exact hn (by omega)
  · refine zv_if_eq C 23 dX8_settle_8 rfl (fun _ => ?_) (fun h => absurd h (by omega))
    refine zv_iconst C dX8_settle_23 rfl ?_
    refine zv_ireturn C dX8_settle_24 rfl rfl rfl rfl ?_
    exact hn (by omega)
