set_option maxRecDepth 20000 in
theorem s_X9_enact {T : zTt} {FR : zFR} {AR : zAR} {FI : zFI} {AI : zAI} {Post : zPost} {o y r : Int} {nI nL : Nat}  (hL : mLay T FR) (hW : mW (AI 111) nI nL) (hq0 : 0 ≤ FI 100 14) (hq1 : FI 100 14 ≤ 10) (hnm1 : ¬ okEn (AI 111) o y r → Post (zI (-1)) T FR AR (zsF FI 100 0 0) AI) (hp : okEn (AI 111) o y r → ∀ (S : Int → Int) (q : Int), zSnp (AI 113) (AI 111) (FI 100 14) S q → Post (zI (AI 111 (5 + 40 * o + y))) T FR AR (zsF (zsF FI 100 0 0) 100 14 (q + 1)) (zrow (zrow AI 113 S) 111 (zfl (AI 111) (5 + 40 * o + y) (5 + 40 * o + 40) r))) : zMet M_X9_enact [zR 100, zI o, zI y, zI r] T FR AR FI AI Post := by
  refine zMet.of [some (zR 100), some (zI o), some (zI y), some (zI r), none] rfl rfl rfl (fun G C => ?_)
  obtain ⟨w0, w1, w2, w3, w4, w5, w6, w7, w8, w9⟩ := id hW
  refine zv_aload_n C dX9_enact_0 rfl rfl ?_
  refine zv_iconst C dX9_enact_1 rfl ?_
  refine zv_putI C dX9_enact_2 f_X9_1 hL.1 rfl ?_
  refine zv_aload_n C dX9_enact_5 rfl rfl ?_
  refine zv_iload_n C dX9_enact_6 rfl ?_
  refine zv_iload_n C dX9_enact_7 rfl ?_
  refine zv_iload_n C dX9_enact_8 rfl ?_
  refine zv_cVi0_3 C dX9_enact_9 k_X9_canEnact l_X9_260 hL.1 rfl ⟨Nat.le_of_ble_eq_true rfl, Nat.le_of_ble_eq_true rfl⟩ ⟨rfl, rfl⟩ ⟨Nat.le_of_ble_eq_true rfl, Nat.le_of_ble_eq_true rfl⟩ rfl rfl ?_
  refine s_X9_canEnact hL hW (fun bo => ?_) (fun bo => ?_)
  · refine zv_if_ne C 17 dX9_enact_12 rfl (fun _ => ?_) (fun h => absurd h (by omega))
    refine zv_aload_n C dX9_enact_17 rfl rfl ?_
    refine zv_cVv0_0 C dX9_enact_18 k_X9_snap l_X9_266 hL.1 rfl ⟨Nat.le_of_ble_eq_true rfl, Nat.le_of_ble_eq_true rfl⟩ ⟨rfl, rfl⟩ ⟨Nat.le_of_ble_eq_true rfl, Nat.le_of_ble_eq_true rfl⟩ rfl rfl ?_
    have bo2 := id bo
    unfold okEn at bo2
    refine s_X9_snap hL (by rw [zsF_ne (by decide)]; exact hq0) (by rw [zsF_ne (by decide)]; exact hq1) (fun S q hS => ?_)
    rw [zsF_ne (by decide)] at hS
    rw [zrow_111]
    refine zv_aload_n C dX9_enact_21 rfl rfl ?_
    refine zv_iload_n C dX9_enact_22 rfl ?_
    refine zv_iload_n C dX9_enact_23 rfl ?_
    refine zv_cVi0_2 C dX9_enact_24 k_X9_rateOf l_X9_207 hL.1 rfl ⟨Nat.le_of_ble_eq_true rfl, Nat.le_of_ble_eq_true rfl⟩ ⟨rfl, rfl⟩ ⟨Nat.le_of_ble_eq_true rfl, Nat.le_of_ble_eq_true rfl⟩ rfl rfl ?_
    refine s_X9_rateOf hL (by omega) (by omega) (by omega) (by omega) ?_
    rw [zrow_eq]
    refine zv_istore_4 C dX9_enact_27 rfl rfl ?_
    refine zv_aload_n C dX9_enact_29 rfl rfl ?_
    refine zv_getR C dX9_enact_30 f_X9_74 hL.1 rfl hL.2.2.2.2.2.2.2.2.2.2.2.2.2.2.2.1 ?_
    refine zv_iload_n C dX9_enact_33 rfl ?_
    refine zv_iload_n C dX9_enact_34 rfl ?_
    refine zv_iload_n C dX9_enact_35 rfl ?_
    refine zv_cSv0_4 C dX9_enact_36 k_X9_setRates l_X9_139 ⟨Nat.le_of_ble_eq_true rfl, Nat.le_of_ble_eq_true rfl⟩ ⟨rfl, rfl⟩ ⟨Nat.le_of_ble_eq_true rfl, Nat.le_of_ble_eq_true rfl⟩ rfl rfl ?_
    refine s_X9_setRates hL.2.2.1 (by omega) (by omega) (by omega) (by omega) ?_
    rw [zrow_fill]
    refine zv_iload C dX9_enact_39 rfl ?_
    refine zv_ireturn C dX9_enact_41 rfl rfl rfl rfl ?_
    exact hp bo S q hS
  · refine zv_if_ne C 17 dX9_enact_12 rfl (fun h => absurd h (by omega)) (fun _ => ?_)
    refine zv_iconst C dX9_enact_15 rfl ?_
    refine zv_ireturn C dX9_enact_16 rfl rfl rfl rfl ?_
    exact hnm1 bo
set_option maxRecDepth 20000 in
theorem s_X9_expect {T : zTt} {FR : zFR} {AR : zAR} {FI : zFI} {AI : zAI} {Post : zPost} {o y s : Int} {nI nL : Nat}  (hL : mLay T FR) (hW : mW (AI 111) nI nL) (hq0 : 0 ≤ FI 100 14) (hq1 : FI 100 14 ≤ 10) (hnm1 : ¬ ((0 ≤ o ∧ o ≤ AI 111 2 - 1) ∧ (AI 111 0 ≤ y ∧ y ≤ 39) ∧ (0 ≤ s ∧ s ≤ 99999)) → Post (zI (-1)) T FR AR (zsF FI 100 0 0) AI) (hp : ((0 ≤ o ∧ o ≤ AI 111 2 - 1) ∧ (AI 111 0 ≤ y ∧ y ≤ 39) ∧ (0 ≤ s ∧ s ≤ 99999)) → ∀ (S : Int → Int) (q : Int), zSnp (AI 113) (AI 111) (FI 100 14) S q → Post (zI (AI 111 (125 + 40 * o + y))) T FR AR (zsF (zsF FI 100 0 0) 100 14 (q + 1)) (zrow (zrow AI 113 S) 111 (nExpect (AI 111) o y s))) : zMet M_X9_expect [zR 100, zI o, zI y, zI s] T FR AR FI AI Post := by
  refine zMet.of [some (zR 100), some (zI o), some (zI y), some (zI s), none] rfl rfl rfl (fun G C => ?_)
  obtain ⟨w0, w1, w2, w3, w4, w5, w6, w7, w8, w9⟩ := id hW
  refine zv_aload_n C dX9_expect_0 rfl rfl ?_
  refine zv_iconst C dX9_expect_1 rfl ?_
  refine zv_putI C dX9_expect_2 f_X9_1 hL.1 rfl ?_
  refine zv_aload_n C dX9_expect_5 rfl rfl ?_
  refine zv_iload_n C dX9_expect_6 rfl ?_
  refine zv_cVi0_1 C dX9_expect_7 k_X9_isOffice l_X9_244 hL.1 rfl ⟨Nat.le_of_ble_eq_true rfl, Nat.le_of_ble_eq_true rfl⟩ ⟨rfl, rfl⟩ ⟨Nat.le_of_ble_eq_true rfl, Nat.le_of_ble_eq_true rfl⟩ rfl rfl ?_
  refine s_X9_isOffice hL ⟨by omega, by omega⟩ (fun b7 => ?_) (fun b7 => ?_)
  · refine zv_if_eq C 38 dX9_expect_10 rfl (fun h => absurd h (by omega)) (fun _ => ?_)
    refine zv_iload_n C dX9_expect_13 rfl ?_
    refine zv_aload_n C dX9_expect_14 rfl rfl ?_
    refine zv_getR C dX9_expect_15 f_X9_74 hL.1 rfl hL.2.2.2.2.2.2.2.2.2.2.2.2.2.2.2.1 ?_
    refine zv_iconst C dX9_expect_18 rfl ?_
    refine zv_iaload C dX9_expect_19 hL.2.2.1 ⟨by omega, by omega⟩ ?_
    refine zv_bipush C dX9_expect_20 rfl ?_
    refine zv_cSi0_3 C dX9_expect_22 k_X9_isIn l_X9_113 ⟨Nat.le_of_ble_eq_true rfl, Nat.le_of_ble_eq_true rfl⟩ ⟨rfl, rfl⟩ ⟨Nat.le_of_ble_eq_true rfl, Nat.le_of_ble_eq_true rfl⟩ rfl rfl ?_
    refine s_X9_isIn (fun b22 => ?_) (fun b22 => ?_)
    · refine zv_if_eq C 38 dX9_expect_25 rfl (fun h => absurd h (by omega)) (fun _ => ?_)
      refine zv_iload_n C dX9_expect_28 rfl ?_
      refine zv_iconst C dX9_expect_29 rfl ?_
      refine zv_ldc (x := 99999) C dX9_expect_30 c_X9_146 rfl ?_
      refine zv_cSi0_3 C dX9_expect_32 k_X9_isIn l_X9_113 ⟨Nat.le_of_ble_eq_true rfl, Nat.le_of_ble_eq_true rfl⟩ ⟨rfl, rfl⟩ ⟨Nat.le_of_ble_eq_true rfl, Nat.le_of_ble_eq_true rfl⟩ rfl rfl ?_
      refine s_X9_isIn (fun b32 => ?_) (fun b32 => ?_)
      · refine zv_if_ne C 40 dX9_expect_35 rfl (fun _ => ?_) (fun h => absurd h (by omega))
        refine zv_aload_n C dX9_expect_40 rfl rfl ?_
        refine zv_cVv0_0 C dX9_expect_41 k_X9_snap l_X9_266 hL.1 rfl ⟨Nat.le_of_ble_eq_true rfl, Nat.le_of_ble_eq_true rfl⟩ ⟨rfl, rfl⟩ ⟨Nat.le_of_ble_eq_true rfl, Nat.le_of_ble_eq_true rfl⟩ rfl rfl ?_
        refine s_X9_snap hL (by rw [zsF_ne (by decide)]; exact hq0) (by rw [zsF_ne (by decide)]; exact hq1) (fun S q hS => ?_)
        rw [zsF_ne (by decide)] at hS
        rw [zrow_111]
        refine zv_aload_n C dX9_expect_44 rfl rfl ?_
        refine zv_iload_n C dX9_expect_45 rfl ?_
        refine zv_iload_n C dX9_expect_46 rfl ?_
        refine zv_cVi0_2 C dX9_expect_47 k_X9_profitOf l_X9_196 hL.1 rfl ⟨Nat.le_of_ble_eq_true rfl, Nat.le_of_ble_eq_true rfl⟩ ⟨rfl, rfl⟩ ⟨Nat.le_of_ble_eq_true rfl, Nat.le_of_ble_eq_true rfl⟩ rfl rfl ?_
        refine s_X9_profitOf hL (by omega) (by omega) (by omega) (by omega) ?_
        rw [zrow_eq]
        refine zv_istore_4 C dX9_expect_50 rfl rfl ?_
        refine zv_aload_n C dX9_expect_52 rfl rfl ?_
        refine zv_getR C dX9_expect_53 f_X9_74 hL.1 rfl hL.2.2.2.2.2.2.2.2.2.2.2.2.2.2.2.1 ?_
        refine zv_bipush C dX9_expect_56 rfl ?_
        refine zv_bipush C dX9_expect_58 rfl ?_
        refine zv_iload_n C dX9_expect_60 rfl ?_
        refine zv_imul C dX9_expect_61 ⟨by omega, by omega⟩ ?_
        refine zv_iadd C dX9_expect_62 ⟨by omega, by omega⟩ ?_
        refine zv_iload_n C dX9_expect_63 rfl ?_
        refine zv_iadd C dX9_expect_64 ⟨by omega, by omega⟩ ?_
        refine zv_iload_n C dX9_expect_65 rfl ?_
        refine zv_iastore C dX9_expect_66 hL.2.2.1 ⟨by omega, by omega⟩ ?_
        rw [zrow_set]
        refine zv_iload C dX9_expect_67 rfl ?_
        refine zv_ireturn C dX9_expect_69 rfl rfl rfl rfl ?_
        exact hp (by omega) S q hS
      · refine zv_if_ne C 40 dX9_expect_35 rfl (fun h => absurd h (by omega)) (fun _ => ?_)
        refine zv_iconst C dX9_expect_38 rfl ?_
        refine zv_ireturn C dX9_expect_39 rfl rfl rfl rfl ?_
        exact hnm1 (by omega)
    · refine zv_if_eq C 38 dX9_expect_25 rfl (fun _ => ?_) (fun h => absurd h (by omega))
      refine zv_iconst C dX9_expect_38 rfl ?_
      refine zv_ireturn C dX9_expect_39 rfl rfl rfl rfl ?_
      exact hnm1 (by omega)
  · refine zv_if_eq C 38 dX9_expect_10 rfl (fun _ => ?_) (fun h => absurd h (by omega))
    refine zv_iconst C dX9_expect_38 rfl ?_
    refine zv_ireturn C dX9_expect_39 rfl rfl rfl rfl ?_
    exact hnm1 (by omega)
set_option maxRecDepth 20000 in
theorem s_X9_arises {T : zTt} {FR : zFR} {AR : zAR} {FI : zFI} {AI : zAI} {Post : zPost} {o tx s f l : Int} {nI nL : Nat}  (hL : mLay T FR) (hW : mW (AI 111) nI nL) (hq0 : 0 ≤ FI 100 14) (hq1 : FI 100 14 ≤ 10) (hnm1 : ¬ ((0 ≤ o ∧ o ≤ AI 111 2 - 1) ∧ (1 ≤ s ∧ s ≤ 99999) ∧ (AI 111 0 + 1 ≤ f ∧ f ≤ 39) ∧ (f ≤ l ∧ l ≤ 39)) → Post (zI (-1)) T FR AR (zsF FI 100 0 0) AI) (hn2 : ((0 ≤ o ∧ o ≤ AI 111 2 - 1) ∧ (1 ≤ s ∧ s ≤ 99999) ∧ (AI 111 0 + 1 ≤ f ∧ f ≤ 39) ∧ (f ≤ l ∧ l ≤ 39)) → AI 111 3 = 30 → Post (zI (-2)) T FR AR (zsF FI 100 0 0) AI) (hp : ((0 ≤ o ∧ o ≤ AI 111 2 - 1) ∧ (1 ≤ s ∧ s ≤ 99999) ∧ (AI 111 0 + 1 ≤ f ∧ f ≤ 39) ∧ (f ≤ l ∧ l ≤ 39)) → AI 111 3 < 30 → ∀ (S : Int → Int) (q : Int), zSnp (AI 113) (AI 111) (FI 100 14) S q → Post (zI (AI 111 3)) T FR AR (zsF (zsF FI 100 0 0) 100 14 (q + 1)) (zrow (zrow AI 113 S) 111 (nArise (AI 111) o (if tx = 0 then 0 else 1) s f l))) : zMet M_X9_arises [zR 100, zI o, zI tx, zI s, zI f, zI l] T FR AR FI AI Post := by
  refine zMet.of [some (zR 100), some (zI o), some (zI tx), some (zI s), some (zI f), some (zI l), none] rfl rfl rfl (fun G C => ?_)
  obtain ⟨w0, w1, w2, w3, w4, w5, w6, w7, w8, w9⟩ := id hW
  refine zv_aload_n C dX9_arises_0 rfl rfl ?_
  refine zv_iconst C dX9_arises_1 rfl ?_
  refine zv_putI C dX9_arises_2 f_X9_1 hL.1 rfl ?_
  refine zv_aload_n C dX9_arises_5 rfl rfl ?_
  refine zv_iload_n C dX9_arises_6 rfl ?_
  refine zv_cVi0_1 C dX9_arises_7 k_X9_isOffice l_X9_244 hL.1 rfl ⟨Nat.le_of_ble_eq_true rfl, Nat.le_of_ble_eq_true rfl⟩ ⟨rfl, rfl⟩ ⟨Nat.le_of_ble_eq_true rfl, Nat.le_of_ble_eq_true rfl⟩ rfl rfl ?_
  refine s_X9_isOffice hL ⟨by omega, by omega⟩ (fun b7 => ?_) (fun b7 => ?_)
  · refine zv_if_eq C 44 dX9_arises_10 rfl (fun h => absurd h (by omega)) (fun _ => ?_)
    refine zv_iload_n C dX9_arises_13 rfl ?_
    refine zv_iconst C dX9_arises_14 rfl ?_
    refine zv_ldc (x := 99999) C dX9_arises_15 c_X9_146 rfl ?_
    refine zv_cSi0_3 C dX9_arises_17 k_X9_isIn l_X9_113 ⟨Nat.le_of_ble_eq_true rfl, Nat.le_of_ble_eq_true rfl⟩ ⟨rfl, rfl⟩ ⟨Nat.le_of_ble_eq_true rfl, Nat.le_of_ble_eq_true rfl⟩ rfl rfl ?_
    refine s_X9_isIn (fun b17 => ?_) (fun b17 => ?_)
    · refine zv_if_eq C 44 dX9_arises_20 rfl (fun h => absurd h (by omega)) (fun _ => ?_)
      refine zv_aload_n C dX9_arises_23 rfl rfl ?_
      refine zv_iload C dX9_arises_24 rfl ?_
      refine zv_cVi0_1 C dX9_arises_26 k_X9_isAhead l_X9_250 hL.1 rfl ⟨Nat.le_of_ble_eq_true rfl, Nat.le_of_ble_eq_true rfl⟩ ⟨rfl, rfl⟩ ⟨Nat.le_of_ble_eq_true rfl, Nat.le_of_ble_eq_true rfl⟩ rfl rfl ?_
      refine s_X9_isAhead hL ⟨by omega, by omega⟩ (fun b26 => ?_) (fun b26 => ?_)
      · refine zv_if_eq C 44 dX9_arises_29 rfl (fun h => absurd h (by omega)) (fun _ => ?_)
        refine zv_iload C dX9_arises_32 rfl ?_
        refine zv_iload C dX9_arises_34 rfl ?_
        refine zv_bipush C dX9_arises_36 rfl ?_
        refine zv_cSi0_3 C dX9_arises_38 k_X9_isIn l_X9_113 ⟨Nat.le_of_ble_eq_true rfl, Nat.le_of_ble_eq_true rfl⟩ ⟨rfl, rfl⟩ ⟨Nat.le_of_ble_eq_true rfl, Nat.le_of_ble_eq_true rfl⟩ rfl rfl ?_
        refine s_X9_isIn (fun b38 => ?_) (fun b38 => ?_)
        · refine zv_if_ne C 46 dX9_arises_41 rfl (fun _ => ?_) (fun h => absurd h (by omega))
          refine zv_aload_n C dX9_arises_46 rfl rfl ?_
          refine zv_getR C dX9_arises_47 f_X9_74 hL.1 rfl hL.2.2.2.2.2.2.2.2.2.2.2.2.2.2.2.1 ?_
          refine zv_iconst C dX9_arises_50 rfl ?_
          refine zv_iaload C dX9_arises_51 hL.2.2.1 ⟨by omega, by omega⟩ ?_
          refine zv_bipush C dX9_arises_52 rfl ?_
          refine zv_icmp_ne C 60 dX9_arises_54 rfl (fun h54 => ?_) (fun h54 => ?_)
          · refine zv_aload_n C dX9_arises_60 rfl rfl ?_
            refine zv_cVv0_0 C dX9_arises_61 k_X9_snap l_X9_266 hL.1 rfl ⟨Nat.le_of_ble_eq_true rfl, Nat.le_of_ble_eq_true rfl⟩ ⟨rfl, rfl⟩ ⟨Nat.le_of_ble_eq_true rfl, Nat.le_of_ble_eq_true rfl⟩ rfl rfl ?_
            refine s_X9_snap hL (by rw [zsF_ne (by decide)]; exact hq0) (by rw [zsF_ne (by decide)]; exact hq1) (fun S q hS => ?_)
            rw [zsF_ne (by decide)] at hS
            rw [zrow_111]
            refine zv_sipush C dX9_arises_64 rfl ?_
            refine zv_iconst C dX9_arises_67 rfl ?_
            refine zv_aload_n C dX9_arises_68 rfl rfl ?_
            refine zv_getR C dX9_arises_69 f_X9_74 hL.1 rfl hL.2.2.2.2.2.2.2.2.2.2.2.2.2.2.2.1 ?_
            refine zv_iconst C dX9_arises_72 rfl ?_
            refine zv_iaload C dX9_arises_73 hL.2.2.1 ⟨by omega, by omega⟩ ?_
            rw [zrow_eq]
            refine zv_imul C dX9_arises_74 ⟨by omega, by omega⟩ ?_
            refine zv_iadd C dX9_arises_75 ⟨by omega, by omega⟩ ?_
            refine zv_istore_6 C dX9_arises_76 rfl rfl ?_
            refine zv_aload_n C dX9_arises_78 rfl rfl ?_
            refine zv_getR C dX9_arises_79 f_X9_74 hL.1 rfl hL.2.2.2.2.2.2.2.2.2.2.2.2.2.2.2.1 ?_
            refine zv_iload C dX9_arises_82 rfl ?_
            refine zv_iconst C dX9_arises_84 rfl ?_
            refine zv_iadd C dX9_arises_85 ⟨by omega, by omega⟩ ?_
            refine zv_iload_n C dX9_arises_86 rfl ?_
            refine zv_iastore C dX9_arises_87 hL.2.2.1 ⟨by omega, by omega⟩ ?_
            rw [zrow_set]
            refine zv_aload_n C dX9_arises_88 rfl rfl ?_
            refine zv_getR C dX9_arises_89 f_X9_74 hL.1 rfl hL.2.2.2.2.2.2.2.2.2.2.2.2.2.2.2.1 ?_
            refine zv_iload C dX9_arises_92 rfl ?_
            refine zv_iconst C dX9_arises_94 rfl ?_
            refine zv_iadd C dX9_arises_95 ⟨by omega, by omega⟩ ?_
            refine zv_iload_n C dX9_arises_96 rfl ?_
            refine zv_if_eq C 104 dX9_arises_97 rfl (fun h97 => ?_) (fun h97 => ?_)
            · refine zv_iconst C dX9_arises_104 rfl ?_
              refine zv_iastore C dX9_arises_105 hL.2.2.1 ⟨by omega, by omega⟩ ?_
              rw [zrow_set]
              refine zv_aload_n C dX9_arises_106 rfl rfl ?_
              refine zv_getR C dX9_arises_107 f_X9_74 hL.1 rfl hL.2.2.2.2.2.2.2.2.2.2.2.2.2.2.2.1 ?_
              refine zv_iload C dX9_arises_110 rfl ?_
              refine zv_iconst C dX9_arises_112 rfl ?_
              refine zv_iadd C dX9_arises_113 ⟨by omega, by omega⟩ ?_
              refine zv_iload_n C dX9_arises_114 rfl ?_
              refine zv_iastore C dX9_arises_115 hL.2.2.1 ⟨by omega, by omega⟩ ?_
              rw [zrow_set]
              refine zv_aload_n C dX9_arises_116 rfl rfl ?_
              refine zv_getR C dX9_arises_117 f_X9_74 hL.1 rfl hL.2.2.2.2.2.2.2.2.2.2.2.2.2.2.2.1 ?_
              refine zv_iload C dX9_arises_120 rfl ?_
              refine zv_iconst C dX9_arises_122 rfl ?_
              refine zv_iadd C dX9_arises_123 ⟨by omega, by omega⟩ ?_
              refine zv_iload C dX9_arises_124 rfl ?_
              refine zv_iastore C dX9_arises_126 hL.2.2.1 ⟨by omega, by omega⟩ ?_
              rw [zrow_set]
              refine zv_aload_n C dX9_arises_127 rfl rfl ?_
              refine zv_getR C dX9_arises_128 f_X9_74 hL.1 rfl hL.2.2.2.2.2.2.2.2.2.2.2.2.2.2.2.1 ?_
              refine zv_iload C dX9_arises_131 rfl ?_
              refine zv_iconst C dX9_arises_133 rfl ?_
              refine zv_iadd C dX9_arises_134 ⟨by omega, by omega⟩ ?_
              refine zv_iload C dX9_arises_135 rfl ?_
              refine zv_iastore C dX9_arises_137 hL.2.2.1 ⟨by omega, by omega⟩ ?_
              rw [zrow_set]
              refine zv_aload_n C dX9_arises_138 rfl rfl ?_
              refine zv_getR C dX9_arises_139 f_X9_74 hL.1 rfl hL.2.2.2.2.2.2.2.2.2.2.2.2.2.2.2.1 ?_
              refine zv_iconst C dX9_arises_142 rfl ?_
              refine zv_dup2 C dX9_arises_143 rfl rfl ?_
              refine zv_iaload C dX9_arises_144 hL.2.2.1 ⟨by omega, by omega⟩ ?_
              simp (disch := omega) only [zrow_eq, zu1_ne, zu1_eq]
              refine zv_iconst C dX9_arises_145 rfl ?_
              refine zv_iadd C dX9_arises_146 ⟨by omega, by omega⟩ ?_
              refine zv_iastore C dX9_arises_147 hL.2.2.1 ⟨by omega, by omega⟩ ?_
              rw [zrow_set]
              refine zv_aload_n C dX9_arises_148 rfl rfl ?_
              refine zv_getR C dX9_arises_149 f_X9_74 hL.1 rfl hL.2.2.2.2.2.2.2.2.2.2.2.2.2.2.2.1 ?_
              refine zv_iconst C dX9_arises_152 rfl ?_
              refine zv_iaload C dX9_arises_153 hL.2.2.1 ⟨by omega, by omega⟩ ?_
              simp (disch := omega) only [zrow_eq, zu1_ne, zu1_eq]
              refine zv_iconst C dX9_arises_154 rfl ?_
              refine zv_isub C dX9_arises_155 ⟨by omega, by omega⟩ ?_
              refine zv_ireturn C dX9_arises_156 rfl rfl rfl rfl ?_
              have e9 := hp (by omega) (by omega) S q hS
              unfold nArise at e9
              first | rw [if_pos (by omega)] at e9 | rw [if_neg (by omega)] at e9
              refine zpost (by omega) e9
            · refine zv_iconst C dX9_arises_100 rfl ?_
              refine zv_goto C 105 dX9_arises_101 rfl ?_
              refine zv_iastore C dX9_arises_105 hL.2.2.1 ⟨by omega, by omega⟩ ?_
              rw [zrow_set]
              refine zv_aload_n C dX9_arises_106 rfl rfl ?_
              refine zv_getR C dX9_arises_107 f_X9_74 hL.1 rfl hL.2.2.2.2.2.2.2.2.2.2.2.2.2.2.2.1 ?_
              refine zv_iload C dX9_arises_110 rfl ?_
              refine zv_iconst C dX9_arises_112 rfl ?_
              refine zv_iadd C dX9_arises_113 ⟨by omega, by omega⟩ ?_
              refine zv_iload_n C dX9_arises_114 rfl ?_
              refine zv_iastore C dX9_arises_115 hL.2.2.1 ⟨by omega, by omega⟩ ?_
              rw [zrow_set]
              refine zv_aload_n C dX9_arises_116 rfl rfl ?_
              refine zv_getR C dX9_arises_117 f_X9_74 hL.1 rfl hL.2.2.2.2.2.2.2.2.2.2.2.2.2.2.2.1 ?_
              refine zv_iload C dX9_arises_120 rfl ?_
              refine zv_iconst C dX9_arises_122 rfl ?_
              refine zv_iadd C dX9_arises_123 ⟨by omega, by omega⟩ ?_
              refine zv_iload C dX9_arises_124 rfl ?_
              refine zv_iastore C dX9_arises_126 hL.2.2.1 ⟨by omega, by omega⟩ ?_
              rw [zrow_set]
              refine zv_aload_n C dX9_arises_127 rfl rfl ?_
              refine zv_getR C dX9_arises_128 f_X9_74 hL.1 rfl hL.2.2.2.2.2.2.2.2.2.2.2.2.2.2.2.1 ?_
              refine zv_iload C dX9_arises_131 rfl ?_
              refine zv_iconst C dX9_arises_133 rfl ?_
              refine zv_iadd C dX9_arises_134 ⟨by omega, by omega⟩ ?_
              refine zv_iload C dX9_arises_135 rfl ?_
              refine zv_iastore C dX9_arises_137 hL.2.2.1 ⟨by omega, by omega⟩ ?_
              rw [zrow_set]
              refine zv_aload_n C dX9_arises_138 rfl rfl ?_
              refine zv_getR C dX9_arises_139 f_X9_74 hL.1 rfl hL.2.2.2.2.2.2.2.2.2.2.2.2.2.2.2.1 ?_
              refine zv_iconst C dX9_arises_142 rfl ?_
              refine zv_dup2 C dX9_arises_143 rfl rfl ?_
              refine zv_iaload C dX9_arises_144 hL.2.2.1 ⟨by omega, by omega⟩ ?_
              simp (disch := omega) only [zrow_eq, zu1_ne, zu1_eq]
              refine zv_iconst C dX9_arises_145 rfl ?_
              refine zv_iadd C dX9_arises_146 ⟨by omega, by omega⟩ ?_
              refine zv_iastore C dX9_arises_147 hL.2.2.1 ⟨by omega, by omega⟩ ?_
              rw [zrow_set]
              refine zv_aload_n C dX9_arises_148 rfl rfl ?_
              refine zv_getR C dX9_arises_149 f_X9_74 hL.1 rfl hL.2.2.2.2.2.2.2.2.2.2.2.2.2.2.2.1 ?_
              refine zv_iconst C dX9_arises_152 rfl ?_
              refine zv_iaload C dX9_arises_153 hL.2.2.1 ⟨by omega, by omega⟩ ?_
              simp (disch := omega) only [zrow_eq, zu1_ne, zu1_eq]
              refine zv_iconst C dX9_arises_154 rfl ?_
              refine zv_isub C dX9_arises_155 ⟨by omega, by omega⟩ ?_
              refine zv_ireturn C dX9_arises_156 rfl rfl rfl rfl ?_
              have e9 := hp (by omega) (by omega) S q hS
              unfold nArise at e9
              first | rw [if_pos (by omega)] at e9 | rw [if_neg (by omega)] at e9
              refine zpost (by omega) e9
          · refine zv_bipush C dX9_arises_57 rfl ?_
            refine zv_ireturn C dX9_arises_59 rfl rfl rfl rfl ?_
            exact hn2 (by omega) (by omega)
        · refine zv_if_ne C 46 dX9_arises_41 rfl (fun h => absurd h (by omega)) (fun _ => ?_)
          refine zv_iconst C dX9_arises_44 rfl ?_
          refine zv_ireturn C dX9_arises_45 rfl rfl rfl rfl ?_
          exact hnm1 (by omega)
      · refine zv_if_eq C 44 dX9_arises_29 rfl (fun _ => ?_) (fun h => absurd h (by omega))
        refine zv_iconst C dX9_arises_44 rfl ?_
        refine zv_ireturn C dX9_arises_45 rfl rfl rfl rfl ?_
        exact hnm1 (by omega)
    · refine zv_if_eq C 44 dX9_arises_20 rfl (fun _ => ?_) (fun h => absurd h (by omega))
      refine zv_iconst C dX9_arises_44 rfl ?_
      refine zv_ireturn C dX9_arises_45 rfl rfl rfl rfl ?_
      exact hnm1 (by omega)
  · refine zv_if_eq C 44 dX9_arises_10 rfl (fun _ => ?_) (fun h => absurd h (by omega))
    refine zv_iconst C dX9_arises_44 rfl ?_
    refine zv_ireturn C dX9_arises_45 rfl rfl rfl rfl ?_
    exact hnm1 (by omega)
set_option maxRecDepth 20000 in
theorem s_X9_settle {T : zTt} {FR : zFR} {AR : zAR} {FI : zFI} {AI : zAI} {Post : zPost} {i : Int} {nI nL : Nat}  (hL : mLay T FR) (hW : mW (AI 111) nI nL) (hq0 : 0 ≤ FI 100 14) (hq1 : FI 100 14 ≤ 10) (hnm1 : ¬ ((0 ≤ i ∧ i ≤ AI 111 3 - 1) ∧ zOpen (mIt (AI 111)) (AI 111 0) i ≠ 0 ∧ AI 111 0 ≠ 39) → Post (zI (-1)) T FR AR (zsF FI 100 0 0) AI) (hp : ((0 ≤ i ∧ i ≤ AI 111 3 - 1) ∧ zOpen (mIt (AI 111)) (AI 111 0) i ≠ 0 ∧ AI 111 0 ≠ 39) → ∀ (S : Int → Int) (q : Int), zSnp (AI 113) (AI 111) (FI 100 14) S q → Post (zI (zOpen (mIt (AI 111)) (AI 111 0) i)) T FR AR (zsF (zsF FI 100 0 0) 100 14 (q + 1)) (zrow (zrow AI 113 S) 111 (nSettle (AI 111) i))) : zMet M_X9_settle [zR 100, zI i] T FR AR FI AI Post := by
  refine zMet.of [some (zR 100), some (zI i), none, none] rfl rfl rfl (fun G C => ?_)
  obtain ⟨w0, w1, w2, w3, w4, w5, w6, w7, w8, w9⟩ := id hW
  refine zv_aload_n C dX9_settle_0 rfl rfl ?_
  refine zv_iconst C dX9_settle_1 rfl ?_
  refine zv_putI C dX9_settle_2 f_X9_1 hL.1 rfl ?_
  refine zv_aload_n C dX9_settle_5 rfl rfl ?_
  refine zv_iload_n C dX9_settle_6 rfl ?_
  refine zv_cVi0_1 C dX9_settle_7 k_X9_isItem l_X9_235 hL.1 rfl ⟨Nat.le_of_ble_eq_true rfl, Nat.le_of_ble_eq_true rfl⟩ ⟨rfl, rfl⟩ ⟨Nat.le_of_ble_eq_true rfl, Nat.le_of_ble_eq_true rfl⟩ rfl rfl ?_
  refine s_X9_isItem hL ⟨by omega, by omega⟩ (fun b7 => ?_) (fun b7 => ?_)
  · refine zv_if_eq C 32 dX9_settle_10 rfl (fun h => absurd h (by omega)) (fun _ => ?_)
    refine zv_aload_n C dX9_settle_13 rfl rfl ?_
    refine zv_iload_n C dX9_settle_14 rfl ?_
    refine zv_cVi0_1 C dX9_settle_15 k_X9_openOf l_X9_216 hL.1 rfl ⟨Nat.le_of_ble_eq_true rfl, Nat.le_of_ble_eq_true rfl⟩ ⟨rfl, rfl⟩ ⟨Nat.le_of_ble_eq_true rfl, Nat.le_of_ble_eq_true rfl⟩ rfl rfl ?_
    refine s_X9_openOf hL (by omega) (by omega) (w8 i (by omega) (by omega)) (by omega) (by omega) ?_
    refine zv_if_eq C 32 dX9_settle_18 rfl (fun h18 => ?_) (fun h18 => ?_)
    · refine zv_iconst C dX9_settle_32 rfl ?_
      refine zv_ireturn C dX9_settle_33 rfl rfl rfl rfl ?_
      exact hnm1 (by omega)
    · refine zv_aload_n C dX9_settle_21 rfl rfl ?_
      refine zv_getR C dX9_settle_22 f_X9_74 hL.1 rfl hL.2.2.2.2.2.2.2.2.2.2.2.2.2.2.2.1 ?_
      refine zv_iconst C dX9_settle_25 rfl ?_
      refine zv_iaload C dX9_settle_26 hL.2.2.1 ⟨by omega, by omega⟩ ?_
      refine zv_bipush C dX9_settle_27 rfl ?_
      refine zv_icmp_ne C 34 dX9_settle_29 rfl (fun h29 => ?_) (fun h29 => ?_)
      · refine zv_aload_n C dX9_settle_34 rfl rfl ?_
        refine zv_cVv0_0 C dX9_settle_35 k_X9_snap l_X9_266 hL.1 rfl ⟨Nat.le_of_ble_eq_true rfl, Nat.le_of_ble_eq_true rfl⟩ ⟨rfl, rfl⟩ ⟨Nat.le_of_ble_eq_true rfl, Nat.le_of_ble_eq_true rfl⟩ rfl rfl ?_
        refine s_X9_snap hL (by rw [zsF_ne (by decide)]; exact hq0) (by rw [zsF_ne (by decide)]; exact hq1) (fun S q hS => ?_)
        rw [zsF_ne (by decide)] at hS
        rw [zrow_111]
        refine zv_aload_n C dX9_settle_38 rfl rfl ?_
        refine zv_iload_n C dX9_settle_39 rfl ?_
        refine zv_cVi0_1 C dX9_settle_40 k_X9_openOf l_X9_216 hL.1 rfl ⟨Nat.le_of_ble_eq_true rfl, Nat.le_of_ble_eq_true rfl⟩ ⟨rfl, rfl⟩ ⟨Nat.le_of_ble_eq_true rfl, Nat.le_of_ble_eq_true rfl⟩ rfl rfl ?_
        refine s_X9_openOf hL (by omega) (by omega) (by rw [zrow_eqF]; exact w8 i (by omega) (by omega)) (by rw [zrow_eq]; omega) (by rw [zrow_eq]; omega) ?_
        rw [zrow_eqF]
        refine zv_istore_2 C dX9_settle_43 rfl rfl ?_
        refine zv_sipush C dX9_settle_44 rfl ?_
        refine zv_iconst C dX9_settle_47 rfl ?_
        refine zv_iload_n C dX9_settle_48 rfl ?_
        refine zv_imul C dX9_settle_49 ⟨by omega, by omega⟩ ?_
        refine zv_iadd C dX9_settle_50 ⟨by omega, by omega⟩ ?_
        refine zv_istore_3 C dX9_settle_51 rfl rfl ?_
        refine zv_aload_n C dX9_settle_52 rfl rfl ?_
        refine zv_getR C dX9_settle_53 f_X9_74 hL.1 rfl hL.2.2.2.2.2.2.2.2.2.2.2.2.2.2.2.1 ?_
        refine zv_iload_n C dX9_settle_56 rfl ?_
        refine zv_iconst C dX9_settle_57 rfl ?_
        refine zv_iadd C dX9_settle_58 ⟨by omega, by omega⟩ ?_
        refine zv_iload_n C dX9_settle_59 rfl ?_
        refine zv_iastore C dX9_settle_60 hL.2.2.1 ⟨by omega, by omega⟩ ?_
        rw [zrow_set]
        refine zv_aload_n C dX9_settle_61 rfl rfl ?_
        refine zv_getR C dX9_settle_62 f_X9_74 hL.1 rfl hL.2.2.2.2.2.2.2.2.2.2.2.2.2.2.2.1 ?_
        refine zv_iload_n C dX9_settle_65 rfl ?_
        refine zv_iconst C dX9_settle_66 rfl ?_
        refine zv_iadd C dX9_settle_67 ⟨by omega, by omega⟩ ?_
        refine zv_aload_n C dX9_settle_68 rfl rfl ?_
        refine zv_getR C dX9_settle_69 f_X9_74 hL.1 rfl hL.2.2.2.2.2.2.2.2.2.2.2.2.2.2.2.1 ?_
        refine zv_iconst C dX9_settle_72 rfl ?_
        refine zv_iaload C dX9_settle_73 hL.2.2.1 ⟨by omega, by omega⟩ ?_
        simp (disch := omega) only [zrow_eq, zu1_ne, zu1_eq]
        refine zv_iconst C dX9_settle_74 rfl ?_
        refine zv_iadd C dX9_settle_75 ⟨by omega, by omega⟩ ?_
        refine zv_iastore C dX9_settle_76 hL.2.2.1 ⟨by omega, by omega⟩ ?_
        rw [zrow_set]
        refine zv_aload_n C dX9_settle_77 rfl rfl ?_
        refine zv_getR C dX9_settle_78 f_X9_74 hL.1 rfl hL.2.2.2.2.2.2.2.2.2.2.2.2.2.2.2.1 ?_
        refine zv_iload_n C dX9_settle_81 rfl ?_
        refine zv_iconst C dX9_settle_82 rfl ?_
        refine zv_iadd C dX9_settle_83 ⟨by omega, by omega⟩ ?_
        refine zv_aload_n C dX9_settle_84 rfl rfl ?_
        refine zv_getR C dX9_settle_85 f_X9_74 hL.1 rfl hL.2.2.2.2.2.2.2.2.2.2.2.2.2.2.2.1 ?_
        refine zv_iconst C dX9_settle_88 rfl ?_
        refine zv_iaload C dX9_settle_89 hL.2.2.1 ⟨by omega, by omega⟩ ?_
        simp (disch := omega) only [zrow_eq, zu1_ne, zu1_eq]
        refine zv_iconst C dX9_settle_90 rfl ?_
        refine zv_iadd C dX9_settle_91 ⟨by omega, by omega⟩ ?_
        refine zv_iastore C dX9_settle_92 hL.2.2.1 ⟨by omega, by omega⟩ ?_
        rw [zrow_set]
        refine zv_iload_n C dX9_settle_93 rfl ?_
        refine zv_ireturn C dX9_settle_94 rfl rfl rfl rfl ?_
        exact hp (by omega) S q hS
      · refine zv_iconst C dX9_settle_32 rfl ?_
        refine zv_ireturn C dX9_settle_33 rfl rfl rfl rfl ?_
        exact hnm1 (by omega)
  · refine zv_if_eq C 32 dX9_settle_10 rfl (fun _ => ?_) (fun h => absurd h (by omega))
    refine zv_iconst C dX9_settle_32 rfl ?_
    refine zv_ireturn C dX9_settle_33 rfl rfl rfl rfl ?_
    exact hnm1 (by omega)
set_option maxRecDepth 20000 in
theorem s_X9_addsLoss {T : zTt} {FR : zFR} {AR : zAR} {FI : zFI} {AI : zAI} {Post : zPost} {o s l : Int} (hL : mLay T FR) (g0 : 0 ≤ AI 111 4) (g1 : AI 111 4 < 10) (hp : Post (zI (AI 111 4)) T FR AR FI (zrow AI 111 (nLoss (AI 111) o s l))) : zMet M_X9_addsLoss [zR 100, zI o, zI s, zI l] T FR AR FI AI Post := by
  refine zMet.of [some (zR 100), some (zI o), some (zI s), some (zI l), none] rfl rfl rfl (fun G C => ?_)
  refine zv_sipush C dX9_addsLoss_0 rfl ?_
  refine zv_iconst C dX9_addsLoss_3 rfl ?_
  refine zv_aload_n C dX9_addsLoss_4 rfl rfl ?_
  refine zv_getR C dX9_addsLoss_5 f_X9_74 hL.1 rfl hL.2.2.2.2.2.2.2.2.2.2.2.2.2.2.2.1 ?_
  refine zv_iconst C dX9_addsLoss_8 rfl ?_
  refine zv_iaload C dX9_addsLoss_9 hL.2.2.1 ⟨by omega, by omega⟩ ?_
  refine zv_imul C dX9_addsLoss_10 ⟨by omega, by omega⟩ ?_
  refine zv_iadd C dX9_addsLoss_11 ⟨by omega, by omega⟩ ?_
  refine zv_istore_4 C dX9_addsLoss_12 rfl rfl ?_
  rw [← zrow_self AI 111]
  have e4 : zrow AI 111 (AI 111) 111 4 = AI 111 4 := zrow_eq
  rw [e4]
  refine zv_aload_n C dX9_addsLoss_14 rfl rfl ?_
  refine zv_getR C dX9_addsLoss_15 f_X9_74 hL.1 rfl hL.2.2.2.2.2.2.2.2.2.2.2.2.2.2.2.1 ?_
  refine zv_iload C dX9_addsLoss_18 rfl ?_
  refine zv_iconst C dX9_addsLoss_20 rfl ?_
  refine zv_iadd C dX9_addsLoss_21 ⟨by omega, by omega⟩ ?_
  refine zv_iload_n C dX9_addsLoss_22 rfl ?_
  refine zv_iastore C dX9_addsLoss_23 hL.2.2.1 ⟨by omega, by omega⟩ ?_
  rw [zrow_set]
  refine zv_aload_n C dX9_addsLoss_24 rfl rfl ?_
  refine zv_getR C dX9_addsLoss_25 f_X9_74 hL.1 rfl hL.2.2.2.2.2.2.2.2.2.2.2.2.2.2.2.1 ?_
  refine zv_iload C dX9_addsLoss_28 rfl ?_
  refine zv_iconst C dX9_addsLoss_30 rfl ?_
  refine zv_iadd C dX9_addsLoss_31 ⟨by omega, by omega⟩ ?_
  refine zv_iload_n C dX9_addsLoss_32 rfl ?_
  refine zv_iastore C dX9_addsLoss_33 hL.2.2.1 ⟨by omega, by omega⟩ ?_
  rw [zrow_set]
  refine zv_aload_n C dX9_addsLoss_34 rfl rfl ?_
  refine zv_getR C dX9_addsLoss_35 f_X9_74 hL.1 rfl hL.2.2.2.2.2.2.2.2.2.2.2.2.2.2.2.1 ?_
  refine zv_iload C dX9_addsLoss_38 rfl ?_
  refine zv_iconst C dX9_addsLoss_40 rfl ?_
  refine zv_iadd C dX9_addsLoss_41 ⟨by omega, by omega⟩ ?_
  refine zv_iload_n C dX9_addsLoss_42 rfl ?_
  refine zv_iastore C dX9_addsLoss_43 hL.2.2.1 ⟨by omega, by omega⟩ ?_
  rw [zrow_set]
  refine zv_aload_n C dX9_addsLoss_44 rfl rfl ?_
  refine zv_getR C dX9_addsLoss_45 f_X9_74 hL.1 rfl hL.2.2.2.2.2.2.2.2.2.2.2.2.2.2.2.1 ?_
  refine zv_iload C dX9_addsLoss_48 rfl ?_
  refine zv_iconst C dX9_addsLoss_50 rfl ?_
  refine zv_iadd C dX9_addsLoss_51 ⟨by omega, by omega⟩ ?_
  refine zv_iload_n C dX9_addsLoss_52 rfl ?_
  refine zv_iastore C dX9_addsLoss_53 hL.2.2.1 ⟨by omega, by omega⟩ ?_
  rw [zrow_set]
  refine zv_aload_n C dX9_addsLoss_54 rfl rfl ?_
  refine zv_getR C dX9_addsLoss_55 f_X9_74 hL.1 rfl hL.2.2.2.2.2.2.2.2.2.2.2.2.2.2.2.1 ?_
  refine zv_iconst C dX9_addsLoss_58 rfl ?_
  refine zv_dup2 C dX9_addsLoss_59 rfl rfl ?_
  refine zv_iaload C dX9_addsLoss_60 hL.2.2.1 ⟨by omega, by omega⟩ ?_
  simp (disch := omega) only [zrow_eq, zu1_ne, zu1_eq]
  refine zv_iconst C dX9_addsLoss_61 rfl ?_
  refine zv_iadd C dX9_addsLoss_62 ⟨by omega, by omega⟩ ?_
  refine zv_iastore C dX9_addsLoss_63 hL.2.2.1 ⟨by omega, by omega⟩ ?_
  rw [zrow_set]
  refine zv_aload_n C dX9_addsLoss_64 rfl rfl ?_
  refine zv_getR C dX9_addsLoss_65 f_X9_74 hL.1 rfl hL.2.2.2.2.2.2.2.2.2.2.2.2.2.2.2.1 ?_
  refine zv_iconst C dX9_addsLoss_68 rfl ?_
  refine zv_iaload C dX9_addsLoss_69 hL.2.2.1 ⟨by omega, by omega⟩ ?_
  simp (disch := omega) only [zrow_eq, zu1_ne, zu1_eq]
  refine zv_iconst C dX9_addsLoss_70 rfl ?_
  refine zv_isub C dX9_addsLoss_71 ⟨by omega, by omega⟩ ?_
  refine zv_ireturn C dX9_addsLoss_72 rfl rfl rfl rfl ?_
  refine zpost (by omega) hp
set_option maxRecDepth 20000 in
theorem s_X9_loses {T : zTt} {FR : zFR} {AR : zAR} {FI : zFI} {AI : zAI} {Post : zPost} {o s l : Int} {nI nL : Nat}  (hL : mLay T FR) (hW : mW (AI 111) nI nL) (hq0 : 0 ≤ FI 100 14) (hq1 : FI 100 14 ≤ 10) (hnm1 : ¬ ((0 ≤ o ∧ o ≤ AI 111 2 - 1) ∧ (1 ≤ s ∧ s ≤ 99999) ∧ (AI 111 0 + 1 ≤ l ∧ l ≤ 39)) → Post (zI (-1)) T FR AR (zsF FI 100 0 0) AI) (hn2 : ((0 ≤ o ∧ o ≤ AI 111 2 - 1) ∧ (1 ≤ s ∧ s ≤ 99999) ∧ (AI 111 0 + 1 ≤ l ∧ l ≤ 39)) → AI 111 4 = 10 → Post (zI (-2)) T FR AR (zsF FI 100 0 0) AI) (hp : ((0 ≤ o ∧ o ≤ AI 111 2 - 1) ∧ (1 ≤ s ∧ s ≤ 99999) ∧ (AI 111 0 + 1 ≤ l ∧ l ≤ 39)) → AI 111 4 < 10 → ∀ (S : Int → Int) (q : Int), zSnp (AI 113) (AI 111) (FI 100 14) S q → Post (zI (AI 111 4)) T FR AR (zsF (zsF FI 100 0 0) 100 14 (q + 1)) (zrow (zrow AI 113 S) 111 (nLoss (AI 111) o s l))) : zMet M_X9_loses [zR 100, zI o, zI s, zI l] T FR AR FI AI Post := by
  refine zMet.of [some (zR 100), some (zI o), some (zI s), some (zI l)] rfl rfl rfl (fun G C => ?_)
  obtain ⟨w0, w1, w2, w3, w4, w5, w6, w7, w8, w9⟩ := id hW
  refine zv_aload_n C dX9_loses_0 rfl rfl ?_
  refine zv_iconst C dX9_loses_1 rfl ?_
  refine zv_putI C dX9_loses_2 f_X9_1 hL.1 rfl ?_
  refine zv_aload_n C dX9_loses_5 rfl rfl ?_
  refine zv_iload_n C dX9_loses_6 rfl ?_
  refine zv_cVi0_1 C dX9_loses_7 k_X9_isOffice l_X9_244 hL.1 rfl ⟨Nat.le_of_ble_eq_true rfl, Nat.le_of_ble_eq_true rfl⟩ ⟨rfl, rfl⟩ ⟨Nat.le_of_ble_eq_true rfl, Nat.le_of_ble_eq_true rfl⟩ rfl rfl ?_
  refine s_X9_isOffice hL ⟨by omega, by omega⟩ (fun b7 => ?_) (fun b7 => ?_)
  · refine zv_if_eq C 31 dX9_loses_10 rfl (fun h => absurd h (by omega)) (fun _ => ?_)
    refine zv_iload_n C dX9_loses_13 rfl ?_
    refine zv_iconst C dX9_loses_14 rfl ?_
    refine zv_ldc (x := 99999) C dX9_loses_15 c_X9_146 rfl ?_
    refine zv_cSi0_3 C dX9_loses_17 k_X9_isIn l_X9_113 ⟨Nat.le_of_ble_eq_true rfl, Nat.le_of_ble_eq_true rfl⟩ ⟨rfl, rfl⟩ ⟨Nat.le_of_ble_eq_true rfl, Nat.le_of_ble_eq_true rfl⟩ rfl rfl ?_
    refine s_X9_isIn (fun b17 => ?_) (fun b17 => ?_)
    · refine zv_if_eq C 31 dX9_loses_20 rfl (fun h => absurd h (by omega)) (fun _ => ?_)
      refine zv_aload_n C dX9_loses_23 rfl rfl ?_
      refine zv_iload_n C dX9_loses_24 rfl ?_
      refine zv_cVi0_1 C dX9_loses_25 k_X9_isAhead l_X9_250 hL.1 rfl ⟨Nat.le_of_ble_eq_true rfl, Nat.le_of_ble_eq_true rfl⟩ ⟨rfl, rfl⟩ ⟨Nat.le_of_ble_eq_true rfl, Nat.le_of_ble_eq_true rfl⟩ rfl rfl ?_
      refine s_X9_isAhead hL ⟨by omega, by omega⟩ (fun b25 => ?_) (fun b25 => ?_)
      · refine zv_if_ne C 33 dX9_loses_28 rfl (fun _ => ?_) (fun h => absurd h (by omega))
        refine zv_aload_n C dX9_loses_33 rfl rfl ?_
        refine zv_getR C dX9_loses_34 f_X9_74 hL.1 rfl hL.2.2.2.2.2.2.2.2.2.2.2.2.2.2.2.1 ?_
        refine zv_iconst C dX9_loses_37 rfl ?_
        refine zv_iaload C dX9_loses_38 hL.2.2.1 ⟨by omega, by omega⟩ ?_
        refine zv_bipush C dX9_loses_39 rfl ?_
        refine zv_icmp_ne C 47 dX9_loses_41 rfl (fun h41 => ?_) (fun h41 => ?_)
        · refine zv_aload_n C dX9_loses_47 rfl rfl ?_
          refine zv_cVv0_0 C dX9_loses_48 k_X9_snap l_X9_266 hL.1 rfl ⟨Nat.le_of_ble_eq_true rfl, Nat.le_of_ble_eq_true rfl⟩ ⟨rfl, rfl⟩ ⟨Nat.le_of_ble_eq_true rfl, Nat.le_of_ble_eq_true rfl⟩ rfl rfl ?_
          refine s_X9_snap hL (by rw [zsF_ne (by decide)]; exact hq0) (by rw [zsF_ne (by decide)]; exact hq1) (fun S q hS => ?_)
          rw [zsF_ne (by decide)] at hS
          rw [zrow_111]
          refine zv_aload_n C dX9_loses_51 rfl rfl ?_
          refine zv_iload_n C dX9_loses_52 rfl ?_
          refine zv_iload_n C dX9_loses_53 rfl ?_
          refine zv_iload_n C dX9_loses_54 rfl ?_
          refine zv_cVi0_3 C dX9_loses_55 k_X9_addsLoss l_X9_269 hL.1 rfl ⟨Nat.le_of_ble_eq_true rfl, Nat.le_of_ble_eq_true rfl⟩ ⟨rfl, rfl⟩ ⟨Nat.le_of_ble_eq_true rfl, Nat.le_of_ble_eq_true rfl⟩ rfl rfl ?_
          refine s_X9_addsLoss hL (by rw [zrow_eq]; omega) (by rw [zrow_eq]; omega) ?_
          rw [zrow_eqF, zrow_zrow]
          refine zv_ireturn C dX9_loses_58 rfl rfl rfl rfl ?_
          exact hp (by omega) (by omega) S q hS
        · refine zv_bipush C dX9_loses_44 rfl ?_
          refine zv_ireturn C dX9_loses_46 rfl rfl rfl rfl ?_
          exact hn2 (by omega) (by omega)
      · refine zv_if_ne C 33 dX9_loses_28 rfl (fun h => absurd h (by omega)) (fun _ => ?_)
        refine zv_iconst C dX9_loses_31 rfl ?_
        refine zv_ireturn C dX9_loses_32 rfl rfl rfl rfl ?_
        exact hnm1 (by omega)
    · refine zv_if_eq C 31 dX9_loses_20 rfl (fun _ => ?_) (fun h => absurd h (by omega))
      refine zv_iconst C dX9_loses_31 rfl ?_
      refine zv_ireturn C dX9_loses_32 rfl rfl rfl rfl ?_
      exact hnm1 (by omega)
  · refine zv_if_eq C 31 dX9_loses_10 rfl (fun _ => ?_) (fun h => absurd h (by omega))
    refine zv_iconst C dX9_loses_31 rfl ?_
    refine zv_ireturn C dX9_loses_32 rfl rfl rfl rfl ?_
    exact hnm1 (by omega)
set_option maxRecDepth 20000 in
theorem s_X9_undo {T : zTt} {FR : zFR} {AR : zAR} {FI : zFI} {AI : zAI} {Post : zPost}  (hL : mLay T FR) (hq0 : 0 ≤ FI 100 14) (hq1 : FI 100 14 ≤ 10) (hnm1 : FI 100 14 = 0 → Post (zI (-1)) T FR AR (zsF FI 100 0 0) AI) (hp : FI 100 14 ≠ 0 → Post (zI (FI 100 14 - 1)) T FR AR (zsF (zsF FI 100 0 0) 100 14 (FI 100 14 - 1)) (zmap AI 111 0 1395 (fun j => AI 113 (1395 * (FI 100 14 - 1) + j)))) : zMet M_X9_undo [zR 100] T FR AR FI AI Post := by
  refine zMet.of [some (zR 100), none] rfl rfl rfl (fun G C => ?_)
  suffices lp : FI 100 14 ≠ 0 → ∀ (d : Nat) (k : Int), k + d = 1395 → 0 ≤ k → zV G 26 [some (zR 100), some (zI k)] [] T FR AR (zsF (zsF FI 100 0 0) 100 14 (FI 100 14 - 1)) (zmap AI 111 0 k (fun j => AI 113 (1395 * (FI 100 14 - 1) + j))) 0 0 from by
    refine zv_aload_n C dX9_undo_0 rfl rfl ?_
    refine zv_iconst C dX9_undo_1 rfl ?_
    refine zv_putI C dX9_undo_2 f_X9_1 hL.1 rfl ?_
    refine zv_aload_n C dX9_undo_5 rfl rfl ?_
    refine zv_getI C dX9_undo_6 f_X9_171 hL.1 rfl ?_
    try simp (disch := omega) only [zsF_eq, zsF_ne]
    refine zv_if_ne C 14 dX9_undo_9 rfl (fun h9 => ?_) (fun h9 => ?_)
    · refine zv_aload_n C dX9_undo_14 rfl rfl ?_
      refine zv_dup C dX9_undo_15 rfl ?_
      refine zv_getI C dX9_undo_16 f_X9_171 hL.1 rfl ?_
      try simp (disch := omega) only [zsF_eq, zsF_ne]
      refine zv_iconst C dX9_undo_19 rfl ?_
      refine zv_isub C dX9_undo_20 ⟨by omega, by omega⟩ ?_
      refine zv_putI C dX9_undo_21 f_X9_171 hL.1 rfl ?_
      refine zv_iconst C dX9_undo_24 rfl ?_
      refine zv_istore_1 C dX9_undo_25 rfl rfl ?_
      have q := lp (by omega) 1395 0 (by omega) (by omega)
      rw [zmap_0] at q
      exact q
    · refine zv_iconst C dX9_undo_12 rfl ?_
      refine zv_ireturn C dX9_undo_13 rfl rfl rfl rfl ?_
      exact hnm1 (by omega)
  intro hne d
  induction d with
  | zero =>
    intro k hk hk0
    have ek : k = 1395 := by omega
    subst ek
    refine zv_iload_n C dX9_undo_26 rfl ?_
    refine zv_sipush C dX9_undo_27 rfl ?_
    refine zv_icmp_ge C 60 dX9_undo_30 rfl (fun h30 => ?_) (fun h30 => absurd h30 (by omega))
    refine zv_aload_n C dX9_undo_60 rfl rfl ?_
    refine zv_getI C dX9_undo_61 f_X9_171 hL.1 rfl ?_
    refine zv_ireturn C dX9_undo_64 rfl rfl rfl rfl ?_
    rw [zsF_eq]
    exact hp hne
  | succ d ih =>
    intro k hk hk0
    have q9 := ih (k + 1) (by omega) (by omega)
    refine zv_iload_n C dX9_undo_26 rfl ?_
    refine zv_sipush C dX9_undo_27 rfl ?_
    refine zv_icmp_ge C 60 dX9_undo_30 rfl (fun h30 => absurd h30 (by omega)) (fun h30 => ?_)
    refine zv_aload_n C dX9_undo_33 rfl rfl ?_
    refine zv_getR C dX9_undo_34 f_X9_74 hL.1 rfl hL.2.2.2.2.2.2.2.2.2.2.2.2.2.2.2.1 ?_
    refine zv_iload_n C dX9_undo_37 rfl ?_
    refine zv_aload_n C dX9_undo_38 rfl rfl ?_
    refine zv_getR C dX9_undo_39 f_X9_80 hL.1 rfl hL.2.2.2.2.2.2.2.2.2.2.2.2.2.2.2.2.2.1 ?_
    refine zv_sipush C dX9_undo_42 rfl ?_
    refine zv_aload_n C dX9_undo_45 rfl rfl ?_
    refine zv_getI C dX9_undo_46 f_X9_171 hL.1 rfl ?_
    rw [zsF_eq]
    refine zv_imul C dX9_undo_49 ⟨by omega, by omega⟩ ?_
    refine zv_iload_n C dX9_undo_50 rfl ?_
    refine zv_iadd C dX9_undo_51 ⟨by omega, by omega⟩ ?_
    refine zv_iaload C dX9_undo_52 hL.2.2.2.2.1 ⟨by omega, by omega⟩ ?_
    rw [zmap_ne (by decide)]
    refine zv_iastore C dX9_undo_53 hL.2.2.1 ⟨by omega, by omega⟩ ?_
    rw [zmap_step (by omega) rfl]
    refine zv_iinc_1 C dX9_undo_54 rfl rfl ⟨by omega, by omega⟩ ?_
    refine zv_goto C 26 dX9_undo_57 rfl ?_
    exact q9

