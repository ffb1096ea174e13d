set_option maxRecDepth 20000 in
theorem s_X9_readOffice {T : zTt} {FR : zFR} {AR : zAR} {FI : zFI} {AI : zAI} {Post : zPost} {b : Int → Int} {n p : Int} {L : Int} (hL : mLay T FR) (eb : AI 101 = b) (hb : ∀ i : Int, 0 ≤ b i ∧ b i ≤ 255) (hn2 : n ≤ 640) (hA : tAt FI b n p) (h2a : 0 ≤ AI 112 2) (h2b : AI 112 2 ≤ 3) (hLL : L = 1 + AI 112 2) (hw : zKw b n p 1 ∨ L = 1) (hO : ∀ (FI1 : zFI) (N1 : Int → Int) (p1 : Int), zFo FI FI1 → lGood b n p (AI 112) L N1 p1 → tAt FI1 b n p1 → Post (zI 1) T FR AR FI1 (zrow AI 112 N1)) (hB : ∀ (FI1 : zFI) (M : Int → Int) (f pl : Int), zFt FI FI1 → FI1 100 8 = f → FI1 100 9 = pl → lFault b n p (AI 112) L f pl → Post (zI 0) T FR AR FI1 (zrow AI 112 M)) : zMet M_X9_readOffice [zR 100] T FR AR FI AI Post := by
  refine zMet.of [some (zR 100)] rfl rfl rfl (fun G C => ?_)
  have hs := hA.sort
  rw [← zrow_self AI 112]
  generalize hN : AI 112 = N at *
  refine zv_aload_n C dX9_readOffice_0 rfl rfl ?_
  refine zv_cVi0_0 C dX9_readOffice_1 k_X9_isOfficeWord l_X9_131 hL.1 rfl ⟨Nat.le_of_ble_eq_true rfl, Nat.le_of_ble_eq_true rfl⟩ ⟨rfl, rfl⟩ ⟨Nat.le_of_ble_eq_true rfl, Nat.le_of_ble_eq_true rfl⟩ rfl rfl ?_
  refine s_X9_isOfficeWord hL hA (fun bo => ?_) (fun bo => ?_)
  · refine zv_if_ne C 13 dX9_readOffice_4 rfl (fun _ => ?_) (fun h => absurd h (by omega))
    refine zv_aload_n C dX9_readOffice_13 rfl rfl ?_
    refine zv_getR C dX9_readOffice_14 f_X9_77 hL.1 rfl hL.2.2.2.2.2.2.2.2.2.2.2.2.2.2.2.2.1 ?_
    refine zv_iconst C dX9_readOffice_17 rfl ?_
    refine zv_iaload C dX9_readOffice_18 hL.2.2.2.1 ⟨by omega, by omega⟩ ?_
    have ok := lOk_1 (N := N) (L := L) bo hLL
    rw [zrow_eq]
    refine zv_iconst C dX9_readOffice_19 rfl ?_
    refine zv_icmp_ne C 29 dX9_readOffice_20 rfl (fun h20 => ?_) (fun h20 => ?_)
    · refine zv_aload_n C dX9_readOffice_29 rfl rfl ?_
      refine zv_cVv0_0 C dX9_readOffice_30 k_X9_go l_X9_117 hL.1 rfl ⟨Nat.le_of_ble_eq_true rfl, Nat.le_of_ble_eq_true rfl⟩ ⟨rfl, rfl⟩ ⟨Nat.le_of_ble_eq_true rfl, Nat.le_of_ble_eq_true rfl⟩ rfl rfl ?_
      refine s2_go hL (by rw [zrow_neF (by decide)]; exact eb) hb hn2 hA (by have ht := bo.1; omega) (fun F1 f1 a1 => ?_)
      refine zv_aload_n C dX9_readOffice_33 rfl rfl ?_
      refine zv_iconst C dX9_readOffice_34 rfl ?_
      refine zv_sipush C dX9_readOffice_35 rfl ?_
      refine zv_cVi0_2 C dX9_readOffice_38 k_X9_takes l_X9_135 hL.1 rfl ⟨Nat.le_of_ble_eq_true rfl, Nat.le_of_ble_eq_true rfl⟩ ⟨rfl, rfl⟩ ⟨Nat.le_of_ble_eq_true rfl, Nat.le_of_ble_eq_true rfl⟩ rfl rfl ?_
      refine s_X9_takes hL (by rw [zrow_neF (by decide)]; exact eb) hb hn2 a1 (fun c1 F2 f2 x2 a2 => ?_) (fun c1 F2 f2 y8 y9 => ?_)
      · refine zv_if_ne C 46 dX9_readOffice_41 rfl (fun _ => ?_) (fun h => absurd h (by omega))
        refine zv_aload_n C dX9_readOffice_46 rfl rfl ?_
        refine zv_getR C dX9_readOffice_47 f_X9_77 hL.1 rfl hL.2.2.2.2.2.2.2.2.2.2.2.2.2.2.2.2.1 ?_
        refine zv_aload_n C dX9_readOffice_50 rfl rfl ?_
        refine zv_getR C dX9_readOffice_51 f_X9_77 hL.1 rfl hL.2.2.2.2.2.2.2.2.2.2.2.2.2.2.2.2.1 ?_
        refine zv_iconst C dX9_readOffice_54 rfl ?_
        refine zv_iaload C dX9_readOffice_55 hL.2.2.2.1 ⟨by omega, by omega⟩ ?_
        rw [zrow_eq]
        refine zv_iconst C dX9_readOffice_56 rfl ?_
        refine zv_aload_n C dX9_readOffice_57 rfl rfl ?_
        refine zv_getI C dX9_readOffice_58 f_X9_120 hL.1 rfl ?_
        rw [x2]
        refine zv_cSv0_4 C dX9_readOffice_61 k_X9_setRates l_X9_139 ⟨Nat.le_of_ble_eq_true rfl, Nat.le_of_ble_eq_true rfl⟩ ⟨rfl, rfl⟩ ⟨Nat.le_of_ble_eq_true rfl, Nat.le_of_ble_eq_true rfl⟩ rfl rfl ?_
        refine s_X9_setRates hL.2.2.2.1 (by omega) (by omega) (by omega) (by omega) ?_
        rw [zrow_fill]
        refine zv_aload_n C dX9_readOffice_64 rfl rfl ?_
        refine zv_getR C dX9_readOffice_65 f_X9_77 hL.1 rfl hL.2.2.2.2.2.2.2.2.2.2.2.2.2.2.2.2.1 ?_
        refine zv_iconst C dX9_readOffice_68 rfl ?_
        refine zv_dup2 C dX9_readOffice_69 rfl rfl ?_
        refine zv_iaload C dX9_readOffice_70 hL.2.2.2.1 ⟨by omega, by omega⟩ ?_
        rw [zrow_eq, show zfl N (5 + 40 * N 2 + 0) (5 + 40 * N 2 + 40) (tV b n (tN b n p)) 2 = N 2 from if_neg (by omega)]
        refine zv_iconst C dX9_readOffice_71 rfl ?_
        refine zv_iadd C dX9_readOffice_72 ⟨by omega, by omega⟩ ?_
        refine zv_iastore C dX9_readOffice_73 hL.2.2.2.1 ⟨by omega, by omega⟩ ?_
        rw [zrow_set]
        refine zv_aload_n C dX9_readOffice_74 rfl rfl ?_
        refine zv_cVi0_0 C dX9_readOffice_75 k_X9_readEnd l_X9_143 hL.1 rfl ⟨Nat.le_of_ble_eq_true rfl, Nat.le_of_ble_eq_true rfl⟩ ⟨rfl, rfl⟩ ⟨Nat.le_of_ble_eq_true rfl, Nat.le_of_ble_eq_true rfl⟩ rfl rfl ?_
        refine s_X9_readEnd hL (by rw [zrow_neF (by decide)]; exact eb) hb hn2 a2 (fun c2 F3 f3 a3 => ?_) (fun c2 F3 f3 y8 y9 => ?_)
        · refine zv_ireturn C dX9_readOffice_78 rfl rfl rfl rfl ?_
          exact hO _ _ _ ((f1.o.trans f2).trans f3) ⟨1, ok, (show ¬ lFull N 1 by unfold lFull; omega), ⟨(sSt_s sSt_0 c1), c2⟩, rfl, rfl⟩ a3
        · refine zv_ireturn C dX9_readOffice_78 rfl rfl rfl rfl ?_
          exact hB _ _ _ _ ((f1.o.trans f2).t.trans f3) rfl rfl (lF_s ok (show ¬ lFull N 1 by unfold lFull; omega) (Or.inr ⟨(sSt_s sSt_0 c1), c2, y8, y9⟩))
      · refine zv_if_ne C 46 dX9_readOffice_41 rfl (fun h => absurd h (by omega)) (fun _ => ?_)
        refine zv_iconst C dX9_readOffice_44 rfl ?_
        refine zv_ireturn C dX9_readOffice_45 rfl rfl rfl rfl ?_
        first
        | exact hB _ _ _ _ (f1.o.t.trans f2) rfl rfl (lF_s ok (show ¬ lFull N 1 by unfold lFull; omega) (sBd_n 0 (by decide) sSt_0 c1 y8 y9))
    · refine zv_aload_n C dX9_readOffice_23 rfl rfl ?_
      refine zv_iconst C dX9_readOffice_24 rfl ?_
      refine zv_cVi0_1 C dX9_readOffice_25 k_X9_bad l_X9_110 hL.1 rfl ⟨Nat.le_of_ble_eq_true rfl, Nat.le_of_ble_eq_true rfl⟩ ⟨rfl, rfl⟩ ⟨Nat.le_of_ble_eq_true rfl, Nat.le_of_ble_eq_true rfl⟩ rfl rfl ?_
      refine s_X9_bad hL ?_
      refine zv_ireturn C dX9_readOffice_28 rfl rfl rfl rfl ?_
      refine hB _ N _ _ ((zFt.rfl.set (by decide)).set (by decide)) rfl rfl ?_
      have ht := bo.1
      rw [zsF_ne (by decide), zsF_eq, zsF_eq, if_neg (by omega), hs.2.2.2.2.2]
      exact lF_f ok (by unfold lFull; omega)
  · refine zv_if_ne C 13 dX9_readOffice_4 rfl (fun h => absurd h (by omega)) (fun _ => ?_)
    refine zv_aload_n C dX9_readOffice_7 rfl rfl ?_
    refine zv_iconst C dX9_readOffice_8 rfl ?_
    refine zv_cVi0_1 C dX9_readOffice_9 k_X9_bad l_X9_110 hL.1 rfl ⟨Nat.le_of_ble_eq_true rfl, Nat.le_of_ble_eq_true rfl⟩ ⟨rfl, rfl⟩ ⟨Nat.le_of_ble_eq_true rfl, Nat.le_of_ble_eq_true rfl⟩ rfl rfl ?_
    refine s_X9_bad hL ?_
    refine zv_ireturn C dX9_readOffice_12 rfl rfl rfl rfl ?_
    refine hB _ N _ _ ((zFt.rfl.set (by decide)).set (by decide)) rfl rfl ?_
    rw [zsF_ne (by decide), zsF_eq, zsF_eq, hs.2.2.2.2.2]
    have e1 : L = 1 := by rcases hw with z | z <;> first | exact absurd z bo | exact z
    subst e1
    exact lF_1 (lNo_1 bo) (by omega) (by split <;> rfl)
set_option maxRecDepth 20000 in
theorem s_X9_readOfYear1 {T : zTt} {FR : zFR} {AR : zAR} {FI : zFI} {AI : zAI} {Post : zPost} {b : Int → Int} {n p : Int} {L : Int} (hL : mLay T FR) (eb : AI 101 = b) (hb : ∀ i : Int, 0 ≤ b i ∧ b i ≤ 255) (hn2 : n ≤ 640) (hA : tAt FI b n p) (h2a : 0 ≤ AI 112 2) (h2b : AI 112 2 ≤ 3) (hLL : 2 ≤ L) (bo : zKw b n p 2) (hO : ∀ (FI1 : zFI) (N1 : Int → Int) (p1 : Int), zFo FI FI1 → lGood b n p (AI 112) L N1 p1 → tAt FI1 b n p1 → Post (zI 1) T FR AR FI1 (zrow AI 112 N1)) (hB : ∀ (FI1 : zFI) (M : Int → Int) (f pl : Int), zFt FI FI1 → FI1 100 8 = f → FI1 100 9 = pl → lFault b n p (AI 112) L f pl → Post (zI 0) T FR AR FI1 (zrow AI 112 M)) : zMet M_X9_readOfYear [zR 100, zI 1] T FR AR FI AI Post := by
  refine zMet.of [some (zR 100), some (zI 1), none, none] rfl rfl rfl (fun G C => ?_)
  have hs := hA.sort
  rw [← zrow_self AI 112]
  generalize hN : AI 112 = N at *
  have ok := lOk_j (N := N) bo (by decide) hLL
  refine zv_aload_n C dX9_readOfYear_0 rfl rfl ?_
  refine zv_cVv0_0 C dX9_readOfYear_1 k_X9_go l_X9_117 hL.1 rfl ⟨Nat.le_of_ble_eq_true rfl, Nat.le_of_ble_eq_true rfl⟩ ⟨rfl, rfl⟩ ⟨Nat.le_of_ble_eq_true rfl, Nat.le_of_ble_eq_true rfl⟩ rfl rfl ?_
  refine s2_go hL (by rw [zrow_neF (by decide)]; exact eb) hb hn2 hA (by have ht := bo.1; omega) (fun F1 f1 a1 => ?_)
  refine zv_aload_n C dX9_readOfYear_4 rfl rfl ?_
  refine zv_iconst C dX9_readOfYear_5 rfl ?_
  refine zv_aload_n C dX9_readOfYear_6 rfl rfl ?_
  refine zv_getR C dX9_readOfYear_7 f_X9_77 hL.1 rfl hL.2.2.2.2.2.2.2.2.2.2.2.2.2.2.2.2.1 ?_
  refine zv_iconst C dX9_readOfYear_10 rfl ?_
  refine zv_iaload C dX9_readOfYear_11 hL.2.2.2.1 ⟨by omega, by omega⟩ ?_
  rw [zrow_eq]
  refine zv_iconst C dX9_readOfYear_12 rfl ?_
  refine zv_isub C dX9_readOfYear_13 ⟨by omega, by omega⟩ ?_
  refine zv_cVi0_2 C dX9_readOfYear_14 k_X9_takes l_X9_135 hL.1 rfl ⟨Nat.le_of_ble_eq_true rfl, Nat.le_of_ble_eq_true rfl⟩ ⟨rfl, rfl⟩ ⟨Nat.le_of_ble_eq_true rfl, Nat.le_of_ble_eq_true rfl⟩ rfl rfl ?_
  refine s_X9_takes hL (by rw [zrow_neF (by decide)]; exact eb) hb hn2 a1 (fun c1 F2 f2 x2 a2 => ?_) (fun c1 F2 f2 y8 y9 => ?_)
  · refine zv_if_ne C 22 dX9_readOfYear_17 rfl (fun _ => ?_) (fun h => absurd h (by omega))
    refine zv_aload_n C dX9_readOfYear_22 rfl rfl ?_
    refine zv_getI C dX9_readOfYear_23 f_X9_120 hL.1 rfl ?_
    rw [x2]
    have v1 := c1.2
    refine zv_istore_2 C dX9_readOfYear_26 rfl rfl ?_
    refine zv_aload_n C dX9_readOfYear_27 rfl rfl ?_
    refine zv_iconst C dX9_readOfYear_28 rfl ?_
    refine zv_bipush C dX9_readOfYear_29 rfl ?_
    refine zv_cVi0_2 C dX9_readOfYear_31 k_X9_takes l_X9_135 hL.1 rfl ⟨Nat.le_of_ble_eq_true rfl, Nat.le_of_ble_eq_true rfl⟩ ⟨rfl, rfl⟩ ⟨Nat.le_of_ble_eq_true rfl, Nat.le_of_ble_eq_true rfl⟩ rfl rfl ?_
    refine s_X9_takes hL (by rw [zrow_neF (by decide)]; exact eb) hb hn2 a2 (fun c2 F3 f3 x3 a3 => ?_) (fun c2 F3 f3 y8 y9 => ?_)
    · refine zv_if_ne C 39 dX9_readOfYear_34 rfl (fun _ => ?_) (fun h => absurd h (by omega))
      refine zv_aload_n C dX9_readOfYear_39 rfl rfl ?_
      refine zv_getI C dX9_readOfYear_40 f_X9_120 hL.1 rfl ?_
      rw [x3]
      have v2 := c2.2
      refine zv_istore_3 C dX9_readOfYear_43 rfl rfl ?_
      refine zv_iload_n C dX9_readOfYear_44 rfl ?_
      refine zv_if_eq C 62 dX9_readOfYear_45 rfl (fun h => absurd h (by omega)) (fun _ => ?_)
      refine zv_aload_n C dX9_readOfYear_48 rfl rfl ?_
      refine zv_iconst C dX9_readOfYear_49 rfl ?_
      refine zv_sipush C dX9_readOfYear_50 rfl ?_
      refine zv_cVi0_2 C dX9_readOfYear_53 k_X9_takes l_X9_135 hL.1 rfl ⟨Nat.le_of_ble_eq_true rfl, Nat.le_of_ble_eq_true rfl⟩ ⟨rfl, rfl⟩ ⟨Nat.le_of_ble_eq_true rfl, Nat.le_of_ble_eq_true rfl⟩ rfl rfl ?_
      refine s_X9_takes hL (by rw [zrow_neF (by decide)]; exact eb) hb hn2 a3 (fun c3 F4 f4 x4 a4 => ?_) (fun c3 F4 f4 y8 y9 => ?_)
      · refine zv_if_ne C 74 dX9_readOfYear_56 rfl (fun _ => ?_) (fun h => absurd h (by omega))
        refine zv_iload_n C dX9_readOfYear_74 rfl ?_
        refine zv_if_eq C 94 dX9_readOfYear_75 rfl (fun h => absurd h (by omega)) (fun _ => ?_)
        refine zv_aload_n C dX9_readOfYear_78 rfl rfl ?_
        refine zv_getR C dX9_readOfYear_79 f_X9_77 hL.1 rfl hL.2.2.2.2.2.2.2.2.2.2.2.2.2.2.2.2.1 ?_
        refine zv_iload_n C dX9_readOfYear_82 rfl ?_
        refine zv_iload_n C dX9_readOfYear_83 rfl ?_
        refine zv_aload_n C dX9_readOfYear_84 rfl rfl ?_
        refine zv_getI C dX9_readOfYear_85 f_X9_120 hL.1 rfl ?_
        rw [x4]
        refine zv_cSv0_4 C dX9_readOfYear_88 k_X9_setRates l_X9_139 ⟨Nat.le_of_ble_eq_true rfl, Nat.le_of_ble_eq_true rfl⟩ ⟨rfl, rfl⟩ ⟨Nat.le_of_ble_eq_true rfl, Nat.le_of_ble_eq_true rfl⟩ rfl rfl ?_
        refine s_X9_setRates hL.2.2.2.1 (by omega) (by omega) (by omega) (by omega) ?_
        rw [zrow_fill]
        refine zv_goto C 112 dX9_readOfYear_91 rfl ?_
        try rw [zrow_set]
        refine zv_aload_n C dX9_readOfYear_112 rfl rfl ?_
        refine zv_cVi0_0 C dX9_readOfYear_113 k_X9_readEnd l_X9_143 hL.1 rfl ⟨Nat.le_of_ble_eq_true rfl, Nat.le_of_ble_eq_true rfl⟩ ⟨rfl, rfl⟩ ⟨Nat.le_of_ble_eq_true rfl, Nat.le_of_ble_eq_true rfl⟩ rfl rfl ?_
        refine s_X9_readEnd hL (by rw [zrow_neF (by decide)]; exact eb) hb hn2 a4 (fun c4 F5 f5 a5 => ?_) (fun c4 F5 f5 y8 y9 => ?_)
        · refine zv_ireturn C dX9_readOfYear_116 rfl rfl rfl rfl ?_
          exact hO _ _ _ ((((f1.o.trans f2).trans f3).trans f4).trans f5) ⟨2, ok, (show ¬ lFull N 2 by unfold lFull; omega), ⟨(sSt_s (sSt_s (sSt_s sSt_0 c1) c2) c3), c4⟩, rfl, rfl⟩ a5
        · refine zv_ireturn C dX9_readOfYear_116 rfl rfl rfl rfl ?_
          exact hB _ _ _ _ ((((f1.o.trans f2).trans f3).trans f4).t.trans f5) rfl rfl (lF_s ok (show ¬ lFull N 2 by unfold lFull; omega) (Or.inr ⟨(sSt_s (sSt_s (sSt_s sSt_0 c1) c2) c3), c4, y8, y9⟩))
      · refine zv_if_ne C 74 dX9_readOfYear_56 rfl (fun h => absurd h (by omega)) (fun _ => ?_)
        refine zv_goto C 72 dX9_readOfYear_59 rfl ?_
        refine zv_iconst C dX9_readOfYear_72 rfl ?_
        refine zv_ireturn C dX9_readOfYear_73 rfl rfl rfl rfl ?_
        first
        | exact hB _ _ _ _ (((f1.o.trans f2).trans f3).t.trans f4) rfl rfl (lF_s ok (show ¬ lFull N 2 by unfold lFull; omega) (sBd_n 2 (by decide) (sSt_s (sSt_s sSt_0 c1) c2) c3 y8 y9))
    · refine zv_if_ne C 39 dX9_readOfYear_34 rfl (fun h => absurd h (by omega)) (fun _ => ?_)
      refine zv_iconst C dX9_readOfYear_37 rfl ?_
      refine zv_ireturn C dX9_readOfYear_38 rfl rfl rfl rfl ?_
      first
      | exact hB _ _ _ _ ((f1.o.trans f2).t.trans f3) rfl rfl (lF_s ok (show ¬ lFull N 2 by unfold lFull; omega) (sBd_n 1 (by decide) (sSt_s sSt_0 c1) c2 y8 y9))
  · refine zv_if_ne C 22 dX9_readOfYear_17 rfl (fun h => absurd h (by omega)) (fun _ => ?_)
    refine zv_iconst C dX9_readOfYear_20 rfl ?_
    refine zv_ireturn C dX9_readOfYear_21 rfl rfl rfl rfl ?_
    first
    | exact hB _ _ _ _ (f1.o.t.trans f2) rfl rfl (lF_s ok (show ¬ lFull N 2 by unfold lFull; omega) (sBd_n 0 (by decide) sSt_0 c1 y8 y9))
set_option maxRecDepth 20000 in
theorem s_X9_readOfYear0 {T : zTt} {FR : zFR} {AR : zAR} {FI : zFI} {AI : zAI} {Post : zPost} {b : Int → Int} {n p : Int} {L : Int} (hL : mLay T FR) (eb : AI 101 = b) (hb : ∀ i : Int, 0 ≤ b i ∧ b i ≤ 255) (hn2 : n ≤ 640) (hA : tAt FI b n p) (h2a : 0 ≤ AI 112 2) (h2b : AI 112 2 ≤ 3) (hLL : 2 ≤ L) (bo : zKw b n p 3) (hO : ∀ (FI1 : zFI) (N1 : Int → Int) (p1 : Int), zFo FI FI1 → lGood b n p (AI 112) L N1 p1 → tAt FI1 b n p1 → Post (zI 1) T FR AR FI1 (zrow AI 112 N1)) (hB : ∀ (FI1 : zFI) (M : Int → Int) (f pl : Int), zFt FI FI1 → FI1 100 8 = f → FI1 100 9 = pl → lFault b n p (AI 112) L f pl → Post (zI 0) T FR AR FI1 (zrow AI 112 M)) : zMet M_X9_readOfYear [zR 100, zI 0] T FR AR FI AI Post := by
  refine zMet.of [some (zR 100), some (zI 0), none, none] rfl rfl rfl (fun G C => ?_)
  have hs := hA.sort
  rw [← zrow_self AI 112]
  generalize hN : AI 112 = N at *
  have ok := lOk_j (N := N) bo (by decide) hLL
  refine zv_aload_n C dX9_readOfYear_0 rfl rfl ?_
  refine zv_cVv0_0 C dX9_readOfYear_1 k_X9_go l_X9_117 hL.1 rfl ⟨Nat.le_of_ble_eq_true rfl, Nat.le_of_ble_eq_true rfl⟩ ⟨rfl, rfl⟩ ⟨Nat.le_of_ble_eq_true rfl, Nat.le_of_ble_eq_true rfl⟩ rfl rfl ?_
  refine s2_go hL (by rw [zrow_neF (by decide)]; exact eb) hb hn2 hA (by have ht := bo.1; omega) (fun F1 f1 a1 => ?_)
  refine zv_aload_n C dX9_readOfYear_4 rfl rfl ?_
  refine zv_iconst C dX9_readOfYear_5 rfl ?_
  refine zv_aload_n C dX9_readOfYear_6 rfl rfl ?_
  refine zv_getR C dX9_readOfYear_7 f_X9_77 hL.1 rfl hL.2.2.2.2.2.2.2.2.2.2.2.2.2.2.2.2.1 ?_
  refine zv_iconst C dX9_readOfYear_10 rfl ?_
  refine zv_iaload C dX9_readOfYear_11 hL.2.2.2.1 ⟨by omega, by omega⟩ ?_
  rw [zrow_eq]
  refine zv_iconst C dX9_readOfYear_12 rfl ?_
  refine zv_isub C dX9_readOfYear_13 ⟨by omega, by omega⟩ ?_
  refine zv_cVi0_2 C dX9_readOfYear_14 k_X9_takes l_X9_135 hL.1 rfl ⟨Nat.le_of_ble_eq_true rfl, Nat.le_of_ble_eq_true rfl⟩ ⟨rfl, rfl⟩ ⟨Nat.le_of_ble_eq_true rfl, Nat.le_of_ble_eq_true rfl⟩ rfl rfl ?_
  refine s_X9_takes hL (by rw [zrow_neF (by decide)]; exact eb) hb hn2 a1 (fun c1 F2 f2 x2 a2 => ?_) (fun c1 F2 f2 y8 y9 => ?_)
  · refine zv_if_ne C 22 dX9_readOfYear_17 rfl (fun _ => ?_) (fun h => absurd h (by omega))
    refine zv_aload_n C dX9_readOfYear_22 rfl rfl ?_
    refine zv_getI C dX9_readOfYear_23 f_X9_120 hL.1 rfl ?_
    rw [x2]
    have v1 := c1.2
    refine zv_istore_2 C dX9_readOfYear_26 rfl rfl ?_
    refine zv_aload_n C dX9_readOfYear_27 rfl rfl ?_
    refine zv_iconst C dX9_readOfYear_28 rfl ?_
    refine zv_bipush C dX9_readOfYear_29 rfl ?_
    refine zv_cVi0_2 C dX9_readOfYear_31 k_X9_takes l_X9_135 hL.1 rfl ⟨Nat.le_of_ble_eq_true rfl, Nat.le_of_ble_eq_true rfl⟩ ⟨rfl, rfl⟩ ⟨Nat.le_of_ble_eq_true rfl, Nat.le_of_ble_eq_true rfl⟩ rfl rfl ?_
    refine s_X9_takes hL (by rw [zrow_neF (by decide)]; exact eb) hb hn2 a2 (fun c2 F3 f3 x3 a3 => ?_) (fun c2 F3 f3 y8 y9 => ?_)
    · refine zv_if_ne C 39 dX9_readOfYear_34 rfl (fun _ => ?_) (fun h => absurd h (by omega))
      refine zv_aload_n C dX9_readOfYear_39 rfl rfl ?_
      refine zv_getI C dX9_readOfYear_40 f_X9_120 hL.1 rfl ?_
      rw [x3]
      have v2 := c2.2
      refine zv_istore_3 C dX9_readOfYear_43 rfl rfl ?_
      refine zv_iload_n C dX9_readOfYear_44 rfl ?_
      refine zv_if_eq C 62 dX9_readOfYear_45 rfl (fun _ => ?_) (fun h => absurd h (by omega))
      refine zv_aload_n C dX9_readOfYear_62 rfl rfl ?_
      refine zv_iconst C dX9_readOfYear_63 rfl ?_
      refine zv_ldc (x := 99999) C dX9_readOfYear_64 c_X9_146 rfl ?_
      refine zv_cVi0_2 C dX9_readOfYear_66 k_X9_takes l_X9_135 hL.1 rfl ⟨Nat.le_of_ble_eq_true rfl, Nat.le_of_ble_eq_true rfl⟩ ⟨rfl, rfl⟩ ⟨Nat.le_of_ble_eq_true rfl, Nat.le_of_ble_eq_true rfl⟩ rfl rfl ?_
      refine s_X9_takes hL (by rw [zrow_neF (by decide)]; exact eb) hb hn2 a3 (fun c3 F4 f4 x4 a4 => ?_) (fun c3 F4 f4 y8 y9 => ?_)
      · refine zv_if_ne C 74 dX9_readOfYear_69 rfl (fun _ => ?_) (fun h => absurd h (by omega))
        refine zv_iload_n C dX9_readOfYear_74 rfl ?_
        refine zv_if_eq C 94 dX9_readOfYear_75 rfl (fun _ => ?_) (fun h => absurd h (by omega))
        refine zv_aload_n C dX9_readOfYear_94 rfl rfl ?_
        refine zv_getR C dX9_readOfYear_95 f_X9_77 hL.1 rfl hL.2.2.2.2.2.2.2.2.2.2.2.2.2.2.2.2.1 ?_
        refine zv_bipush C dX9_readOfYear_98 rfl ?_
        refine zv_bipush C dX9_readOfYear_100 rfl ?_
        refine zv_iload_n C dX9_readOfYear_102 rfl ?_
        refine zv_imul C dX9_readOfYear_103 ⟨by omega, by omega⟩ ?_
        refine zv_iadd C dX9_readOfYear_104 ⟨by omega, by omega⟩ ?_
        refine zv_iload_n C dX9_readOfYear_105 rfl ?_
        refine zv_iadd C dX9_readOfYear_106 ⟨by omega, by omega⟩ ?_
        refine zv_aload_n C dX9_readOfYear_107 rfl rfl ?_
        refine zv_getI C dX9_readOfYear_108 f_X9_120 hL.1 rfl ?_
        rw [x4]
        refine zv_iastore C dX9_readOfYear_111 hL.2.2.2.1 ⟨by omega, by omega⟩ ?_
        try rw [zrow_set]
        refine zv_aload_n C dX9_readOfYear_112 rfl rfl ?_
        refine zv_cVi0_0 C dX9_readOfYear_113 k_X9_readEnd l_X9_143 hL.1 rfl ⟨Nat.le_of_ble_eq_true rfl, Nat.le_of_ble_eq_true rfl⟩ ⟨rfl, rfl⟩ ⟨Nat.le_of_ble_eq_true rfl, Nat.le_of_ble_eq_true rfl⟩ rfl rfl ?_
        refine s_X9_readEnd hL (by rw [zrow_neF (by decide)]; exact eb) hb hn2 a4 (fun c4 F5 f5 a5 => ?_) (fun c4 F5 f5 y8 y9 => ?_)
        · refine zv_ireturn C dX9_readOfYear_116 rfl rfl rfl rfl ?_
          exact hO _ _ _ ((((f1.o.trans f2).trans f3).trans f4).trans f5) ⟨3, ok, (show ¬ lFull N 3 by unfold lFull; omega), ⟨(sSt_s (sSt_s (sSt_s sSt_0 c1) c2) c3), c4⟩, rfl, rfl⟩ a5
        · refine zv_ireturn C dX9_readOfYear_116 rfl rfl rfl rfl ?_
          exact hB _ _ _ _ ((((f1.o.trans f2).trans f3).trans f4).t.trans f5) rfl rfl (lF_s ok (show ¬ lFull N 3 by unfold lFull; omega) (Or.inr ⟨(sSt_s (sSt_s (sSt_s sSt_0 c1) c2) c3), c4, y8, y9⟩))
      · refine zv_if_ne C 74 dX9_readOfYear_69 rfl (fun h => absurd h (by omega)) (fun _ => ?_)
        refine zv_iconst C dX9_readOfYear_72 rfl ?_
        refine zv_ireturn C dX9_readOfYear_73 rfl rfl rfl rfl ?_
        first
        | exact hB _ _ _ _ (((f1.o.trans f2).trans f3).t.trans f4) rfl rfl (lF_s ok (show ¬ lFull N 3 by unfold lFull; omega) (sBd_n 2 (by decide) (sSt_s (sSt_s sSt_0 c1) c2) c3 y8 y9))
    · refine zv_if_ne C 39 dX9_readOfYear_34 rfl (fun h => absurd h (by omega)) (fun _ => ?_)
      refine zv_iconst C dX9_readOfYear_37 rfl ?_
      refine zv_ireturn C dX9_readOfYear_38 rfl rfl rfl rfl ?_
      first
      | exact hB _ _ _ _ ((f1.o.trans f2).t.trans f3) rfl rfl (lF_s ok (show ¬ lFull N 3 by unfold lFull; omega) (sBd_n 1 (by decide) (sSt_s sSt_0 c1) c2 y8 y9))
  · refine zv_if_ne C 22 dX9_readOfYear_17 rfl (fun h => absurd h (by omega)) (fun _ => ?_)
    refine zv_iconst C dX9_readOfYear_20 rfl ?_
    refine zv_ireturn C dX9_readOfYear_21 rfl rfl rfl rfl ?_
    first
    | exact hB _ _ _ _ (f1.o.t.trans f2) rfl rfl (lF_s ok (show ¬ lFull N 3 by unfold lFull; omega) (sBd_n 0 (by decide) sSt_0 c1 y8 y9))
set_option maxRecDepth 20000 in
theorem s_X9_readItem1 {T : zTt} {FR : zFR} {AR : zAR} {FI : zFI} {AI : zAI} {Post : zPost} {b : Int → Int} {n p : Int} {L : Int} (hL : mLay T FR) (eb : AI 101 = b) (hb : ∀ i : Int, 0 ≤ b i ∧ b i ≤ 255) (hn2 : n ≤ 640) (hA : tAt FI b n p) (h2a : 0 ≤ AI 112 2) (h2b : AI 112 2 ≤ 3) (h3a : 0 ≤ AI 112 3) (h3b : AI 112 3 ≤ 16) (hLL : 2 ≤ L) (bo : zKw b n p 4) (hO : ∀ (FI1 : zFI) (N1 : Int → Int) (p1 : Int), zFo FI FI1 → lGood b n p (AI 112) L N1 p1 → tAt FI1 b n p1 → Post (zI 1) T FR AR FI1 (zrow AI 112 N1)) (hB : ∀ (FI1 : zFI) (M : Int → Int) (f pl : Int), zFt FI FI1 → FI1 100 8 = f → FI1 100 9 = pl → lFault b n p (AI 112) L f pl → Post (zI 0) T FR AR FI1 (zrow AI 112 M)) : zMet M_X9_readItem [zR 100, zI 1] T FR AR FI AI Post := by
  refine zMet.of [some (zR 100), some (zI 1), none] rfl rfl rfl (fun G C => ?_)
  have hs := hA.sort
  rw [← zrow_self AI 112]
  generalize hN : AI 112 = N at *
  have ok := lOk_j (N := N) bo (by decide) hLL
  refine zv_aload_n C dX9_readItem_0 rfl rfl ?_
  refine zv_getR C dX9_readItem_1 f_X9_77 hL.1 rfl hL.2.2.2.2.2.2.2.2.2.2.2.2.2.2.2.2.1 ?_
  refine zv_iconst C dX9_readItem_4 rfl ?_
  refine zv_iaload C dX9_readItem_5 hL.2.2.2.1 ⟨by omega, by omega⟩ ?_
  rw [zrow_eq]
  refine zv_bipush C dX9_readItem_6 rfl ?_
  refine zv_icmp_ne C 17 dX9_readItem_8 rfl (fun h8 => ?_) (fun h8 => ?_)
  · refine zv_aload_n C dX9_readItem_17 rfl rfl ?_
    refine zv_cVv0_0 C dX9_readItem_18 k_X9_go l_X9_117 hL.1 rfl ⟨Nat.le_of_ble_eq_true rfl, Nat.le_of_ble_eq_true rfl⟩ ⟨rfl, rfl⟩ ⟨Nat.le_of_ble_eq_true rfl, Nat.le_of_ble_eq_true rfl⟩ rfl rfl ?_
    refine s2_go hL (by rw [zrow_neF (by decide)]; exact eb) hb hn2 hA (by have ht := bo.1; omega) (fun F1 f1 a1 => ?_)
    refine zv_sipush C dX9_readItem_21 rfl ?_
    refine zv_iconst C dX9_readItem_24 rfl ?_
    refine zv_aload_n C dX9_readItem_25 rfl rfl ?_
    refine zv_getR C dX9_readItem_26 f_X9_77 hL.1 rfl hL.2.2.2.2.2.2.2.2.2.2.2.2.2.2.2.2.1 ?_
    refine zv_iconst C dX9_readItem_29 rfl ?_
    refine zv_iaload C dX9_readItem_30 hL.2.2.2.1 ⟨by omega, by omega⟩ ?_
    rw [zrow_eq]
    refine zv_imul C dX9_readItem_31 ⟨by omega, by omega⟩ ?_
    refine zv_iadd C dX9_readItem_32 ⟨by omega, by omega⟩ ?_
    refine zv_istore_2 C dX9_readItem_33 rfl rfl ?_
    refine zv_aload_n C dX9_readItem_34 rfl rfl ?_
    refine zv_iload_n C dX9_readItem_35 rfl ?_
    refine zv_iconst C dX9_readItem_36 rfl ?_
    refine zv_iadd C dX9_readItem_37 ⟨by omega, by omega⟩ ?_
    refine zv_iconst C dX9_readItem_38 rfl ?_
    refine zv_aload_n C dX9_readItem_39 rfl rfl ?_
    refine zv_getR C dX9_readItem_40 f_X9_77 hL.1 rfl hL.2.2.2.2.2.2.2.2.2.2.2.2.2.2.2.2.1 ?_
    refine zv_iconst C dX9_readItem_43 rfl ?_
    refine zv_iaload C dX9_readItem_44 hL.2.2.2.1 ⟨by omega, by omega⟩ ?_
    rw [zrow_eq]
    refine zv_iconst C dX9_readItem_45 rfl ?_
    refine zv_isub C dX9_readItem_46 ⟨by omega, by omega⟩ ?_
    refine zv_cVi0_3 C dX9_readItem_47 k_X9_told l_X9_147 hL.1 rfl ⟨Nat.le_of_ble_eq_true rfl, Nat.le_of_ble_eq_true rfl⟩ ⟨rfl, rfl⟩ ⟨Nat.le_of_ble_eq_true rfl, Nat.le_of_ble_eq_true rfl⟩ rfl rfl ?_
    refine s_X9_told hL (by rw [zrow_neF (by decide)]; exact eb) hb hn2 a1 (by omega) (by omega) (fun c1 F2 f2 a2 => ?_) (fun c1 F2 f2 y8 y9 => ?_)
    · try rw [zrow_set]
      refine zv_if_eq C 99 dX9_readItem_50 rfl (fun h => absurd h (by omega)) (fun _ => ?_)
      refine zv_aload_n C dX9_readItem_53 rfl rfl ?_
      refine zv_iload_n C dX9_readItem_54 rfl ?_
      refine zv_iconst C dX9_readItem_55 rfl ?_
      refine zv_iadd C dX9_readItem_56 ⟨by omega, by omega⟩ ?_
      refine zv_iconst C dX9_readItem_57 rfl ?_
      refine zv_ldc (x := 99999) C dX9_readItem_58 c_X9_146 rfl ?_
      refine zv_cVi0_3 C dX9_readItem_60 k_X9_told l_X9_147 hL.1 rfl ⟨Nat.le_of_ble_eq_true rfl, Nat.le_of_ble_eq_true rfl⟩ ⟨rfl, rfl⟩ ⟨Nat.le_of_ble_eq_true rfl, Nat.le_of_ble_eq_true rfl⟩ rfl rfl ?_
      refine s_X9_told hL (by rw [zrow_neF (by decide)]; exact eb) hb hn2 a2 (by omega) (by omega) (fun c2 F3 f3 a3 => ?_) (fun c2 F3 f3 y8 y9 => ?_)
      · try rw [zrow_set]
        refine zv_if_eq C 99 dX9_readItem_63 rfl (fun h => absurd h (by omega)) (fun _ => ?_)
        refine zv_aload_n C dX9_readItem_66 rfl rfl ?_
        refine zv_iload_n C dX9_readItem_67 rfl ?_
        refine zv_iconst C dX9_readItem_68 rfl ?_
        refine zv_iadd C dX9_readItem_69 ⟨by omega, by omega⟩ ?_
        refine zv_iconst C dX9_readItem_70 rfl ?_
        refine zv_bipush C dX9_readItem_71 rfl ?_
        refine zv_cVi0_3 C dX9_readItem_73 k_X9_told l_X9_147 hL.1 rfl ⟨Nat.le_of_ble_eq_true rfl, Nat.le_of_ble_eq_true rfl⟩ ⟨rfl, rfl⟩ ⟨Nat.le_of_ble_eq_true rfl, Nat.le_of_ble_eq_true rfl⟩ rfl rfl ?_
        refine s_X9_told hL (by rw [zrow_neF (by decide)]; exact eb) hb hn2 a3 (by omega) (by omega) (fun c3 F4 f4 a4 => ?_) (fun c3 F4 f4 y8 y9 => ?_)
        · try rw [zrow_set]
          refine zv_if_eq C 99 dX9_readItem_76 rfl (fun h => absurd h (by omega)) (fun _ => ?_)
          refine zv_aload_n C dX9_readItem_79 rfl rfl ?_
          refine zv_iload_n C dX9_readItem_80 rfl ?_
          refine zv_iconst C dX9_readItem_81 rfl ?_
          refine zv_iadd C dX9_readItem_82 ⟨by omega, by omega⟩ ?_
          refine zv_aload_n C dX9_readItem_83 rfl rfl ?_
          refine zv_getR C dX9_readItem_84 f_X9_77 hL.1 rfl hL.2.2.2.2.2.2.2.2.2.2.2.2.2.2.2.2.1 ?_
          refine zv_iload_n C dX9_readItem_87 rfl ?_
          refine zv_iconst C dX9_readItem_88 rfl ?_
          refine zv_iadd C dX9_readItem_89 ⟨by omega, by omega⟩ ?_
          refine zv_iaload C dX9_readItem_90 hL.2.2.2.1 ⟨by omega, by omega⟩ ?_
          rw [zrow_eq, zu1_eq]
          refine zv_bipush C dX9_readItem_91 rfl ?_
          refine zv_cVi0_3 C dX9_readItem_93 k_X9_told l_X9_147 hL.1 rfl ⟨Nat.le_of_ble_eq_true rfl, Nat.le_of_ble_eq_true rfl⟩ ⟨rfl, rfl⟩ ⟨Nat.le_of_ble_eq_true rfl, Nat.le_of_ble_eq_true rfl⟩ rfl rfl ?_
          refine s_X9_told hL (by rw [zrow_neF (by decide)]; exact eb) hb hn2 a4 (by omega) (by omega) (fun c4 F5 f5 a5 => ?_) (fun c4 F5 f5 y8 y9 => ?_)
          · try rw [zrow_set]
            refine zv_if_ne C 101 dX9_readItem_96 rfl (fun _ => ?_) (fun h => absurd h (by omega))
            refine zv_aload_n C dX9_readItem_101 rfl rfl ?_
            refine zv_getR C dX9_readItem_102 f_X9_77 hL.1 rfl hL.2.2.2.2.2.2.2.2.2.2.2.2.2.2.2.2.1 ?_
            refine zv_iload_n C dX9_readItem_105 rfl ?_
            refine zv_iconst C dX9_readItem_106 rfl ?_
            refine zv_iadd C dX9_readItem_107 ⟨by omega, by omega⟩ ?_
            refine zv_iload_n C dX9_readItem_108 rfl ?_
            refine zv_if_eq C 116 dX9_readItem_109 rfl (fun h => absurd h (by omega)) (fun _ => ?_)
            refine zv_iconst C dX9_readItem_112 rfl ?_
            refine zv_goto C 117 dX9_readItem_113 rfl ?_
            refine zv_iastore C dX9_readItem_117 hL.2.2.2.1 ⟨by omega, by omega⟩ ?_
            rw [zrow_set]
            refine zv_aload_n C dX9_readItem_118 rfl rfl ?_
            refine zv_getR C dX9_readItem_119 f_X9_77 hL.1 rfl hL.2.2.2.2.2.2.2.2.2.2.2.2.2.2.2.2.1 ?_
            refine zv_iconst C dX9_readItem_122 rfl ?_
            refine zv_dup2 C dX9_readItem_123 rfl rfl ?_
            refine zv_iaload C dX9_readItem_124 hL.2.2.2.1 ⟨by omega, by omega⟩ ?_
            try simp (disch := omega) only [zrow_eq, zu1_ne, zu1_eq]
            refine zv_iconst C dX9_readItem_125 rfl ?_
            refine zv_iadd C dX9_readItem_126 ⟨by omega, by omega⟩ ?_
            refine zv_iastore C dX9_readItem_127 hL.2.2.2.1 ⟨by omega, by omega⟩ ?_
            rw [zrow_set]
            refine zv_aload_n C dX9_readItem_128 rfl rfl ?_
            refine zv_cVi0_0 C dX9_readItem_129 k_X9_readEnd l_X9_143 hL.1 rfl ⟨Nat.le_of_ble_eq_true rfl, Nat.le_of_ble_eq_true rfl⟩ ⟨rfl, rfl⟩ ⟨Nat.le_of_ble_eq_true rfl, Nat.le_of_ble_eq_true rfl⟩ rfl rfl ?_
            refine s_X9_readEnd hL (by rw [zrow_neF (by decide)]; exact eb) hb hn2 a5 (fun c5 F6 f6 a6 => ?_) (fun c5 F6 f6 y8 y9 => ?_)
            · refine zv_ireturn C dX9_readItem_132 rfl rfl rfl rfl ?_
              exact hO _ _ _ (((((f1.o.trans f2).trans f3).trans f4).trans f5).trans f6) ⟨4, ok, (show ¬ lFull N 4 by unfold lFull; omega), ⟨(sSt_s (sSt_s (sSt_s (sSt_s sSt_0 c1) c2) c3) c4), c5⟩, rfl, rfl⟩ a6
            · refine zv_ireturn C dX9_readItem_132 rfl rfl rfl rfl ?_
              exact hB _ _ _ _ (((((f1.o.trans f2).trans f3).trans f4).trans f5).t.trans f6) rfl rfl (lF_s ok (show ¬ lFull N 4 by unfold lFull; omega) (Or.inr ⟨(sSt_s (sSt_s (sSt_s (sSt_s sSt_0 c1) c2) c3) c4), c5, y8, y9⟩))
          · try rw [zrow_set]
            refine zv_if_ne C 101 dX9_readItem_96 rfl (fun h => absurd h (by omega)) (fun _ => ?_)
            refine zv_iconst C dX9_readItem_99 rfl ?_
            refine zv_ireturn C dX9_readItem_100 rfl rfl rfl rfl ?_
            first
            | exact hB _ _ _ _ ((((f1.o.trans f2).trans f3).trans f4).t.trans f5) rfl rfl (lF_s ok (show ¬ lFull N 4 by unfold lFull; omega) (sBd_n 3 (by decide) (sSt_s (sSt_s (sSt_s sSt_0 c1) c2) c3) c4 y8 y9))
            | exact hB _ _ _ _ (((f1.o.trans f2).trans f3).t.trans f4) rfl rfl (lF_s ok (show ¬ lFull N 4 by unfold lFull; omega) (sBd_n 2 (by decide) (sSt_s (sSt_s sSt_0 c1) c2) c3 y8 y9))
            | exact hB _ _ _ _ ((f1.o.trans f2).t.trans f3) rfl rfl (lF_s ok (show ¬ lFull N 4 by unfold lFull; omega) (sBd_n 1 (by decide) (sSt_s sSt_0 c1) c2 y8 y9))
            | exact hB _ _ _ _ (f1.o.t.trans f2) rfl rfl (lF_s ok (show ¬ lFull N 4 by unfold lFull; omega) (sBd_n 0 (by decide) sSt_0 c1 y8 y9))
        · try rw [zrow_set]
          refine zv_if_eq C 99 dX9_readItem_76 rfl (fun _ => ?_) (fun h => absurd h (by omega))
          refine zv_iconst C dX9_readItem_99 rfl ?_
          refine zv_ireturn C dX9_readItem_100 rfl rfl rfl rfl ?_
          first
          | exact hB _ _ _ _ ((((f1.o.trans f2).trans f3).trans f4).t.trans f5) rfl rfl (lF_s ok (show ¬ lFull N 4 by unfold lFull; omega) (sBd_n 3 (by decide) (sSt_s (sSt_s (sSt_s sSt_0 c1) c2) c3) c4 y8 y9))
          | exact hB _ _ _ _ (((f1.o.trans f2).trans f3).t.trans f4) rfl rfl (lF_s ok (show ¬ lFull N 4 by unfold lFull; omega) (sBd_n 2 (by decide) (sSt_s (sSt_s sSt_0 c1) c2) c3 y8 y9))
          | exact hB _ _ _ _ ((f1.o.trans f2).t.trans f3) rfl rfl (lF_s ok (show ¬ lFull N 4 by unfold lFull; omega) (sBd_n 1 (by decide) (sSt_s sSt_0 c1) c2 y8 y9))
          | exact hB _ _ _ _ (f1.o.t.trans f2) rfl rfl (lF_s ok (show ¬ lFull N 4 by unfold lFull; omega) (sBd_n 0 (by decide) sSt_0 c1 y8 y9))
      · try rw [zrow_set]
        refine zv_if_eq C 99 dX9_readItem_63 rfl (fun _ => ?_) (fun h => absurd h (by omega))
        refine zv_iconst C dX9_readItem_99 rfl ?_
        refine zv_ireturn C dX9_readItem_100 rfl rfl rfl rfl ?_
        first
        | exact hB _ _ _ _ ((((f1.o.trans f2).trans f3).trans f4).t.trans f5) rfl rfl (lF_s ok (show ¬ lFull N 4 by unfold lFull; omega) (sBd_n 3 (by decide) (sSt_s (sSt_s (sSt_s sSt_0 c1) c2) c3) c4 y8 y9))
        | exact hB _ _ _ _ (((f1.o.trans f2).trans f3).t.trans f4) rfl rfl (lF_s ok (show ¬ lFull N 4 by unfold lFull; omega) (sBd_n 2 (by decide) (sSt_s (sSt_s sSt_0 c1) c2) c3 y8 y9))
        | exact hB _ _ _ _ ((f1.o.trans f2).t.trans f3) rfl rfl (lF_s ok (show ¬ lFull N 4 by unfold lFull; omega) (sBd_n 1 (by decide) (sSt_s sSt_0 c1) c2 y8 y9))
        | exact hB _ _ _ _ (f1.o.t.trans f2) rfl rfl (lF_s ok (show ¬ lFull N 4 by unfold lFull; omega) (sBd_n 0 (by decide) sSt_0 c1 y8 y9))
    · try rw [zrow_set]
      refine zv_if_eq C 99 dX9_readItem_50 rfl (fun _ => ?_) (fun h => absurd h (by omega))
      refine zv_iconst C dX9_readItem_99 rfl ?_
      refine zv_ireturn C dX9_readItem_100 rfl rfl rfl rfl ?_
      first
      | exact hB _ _ _ _ ((((f1.o.trans f2).trans f3).trans f4).t.trans f5) rfl rfl (lF_s ok (show ¬ lFull N 4 by unfold lFull; omega) (sBd_n 3 (by decide) (sSt_s (sSt_s (sSt_s sSt_0 c1) c2) c3) c4 y8 y9))
      | exact hB _ _ _ _ (((f1.o.trans f2).trans f3).t.trans f4) rfl rfl (lF_s ok (show ¬ lFull N 4 by unfold lFull; omega) (sBd_n 2 (by decide) (sSt_s (sSt_s sSt_0 c1) c2) c3 y8 y9))
      | exact hB _ _ _ _ ((f1.o.trans f2).t.trans f3) rfl rfl (lF_s ok (show ¬ lFull N 4 by unfold lFull; omega) (sBd_n 1 (by decide) (sSt_s sSt_0 c1) c2 y8 y9))
      | exact hB _ _ _ _ (f1.o.t.trans f2) rfl rfl (lF_s ok (show ¬ lFull N 4 by unfold lFull; omega) (sBd_n 0 (by decide) sSt_0 c1 y8 y9))
  · refine zv_aload_n C dX9_readItem_11 rfl rfl ?_
    refine zv_iconst C dX9_readItem_12 rfl ?_
    refine zv_cVi0_1 C dX9_readItem_13 k_X9_bad l_X9_110 hL.1 rfl ⟨Nat.le_of_ble_eq_true rfl, Nat.le_of_ble_eq_true rfl⟩ ⟨rfl, rfl⟩ ⟨Nat.le_of_ble_eq_true rfl, Nat.le_of_ble_eq_true rfl⟩ rfl rfl ?_
    refine s_X9_bad hL ?_
    refine zv_ireturn C dX9_readItem_16 rfl rfl rfl rfl ?_
    refine hB _ N _ _ ((zFt.rfl.set (by decide)).set (by decide)) rfl rfl ?_
    have ht := bo.1
    rw [zsF_ne (by decide), zsF_eq, zsF_eq, if_neg (by omega), hs.2.2.2.2.2]
    exact lF_f ok (by unfold lFull; omega)
set_option maxRecDepth 20000 in
theorem s_X9_readItem0 {T : zTt} {FR : zFR} {AR : zAR} {FI : zFI} {AI : zAI} {Post : zPost} {b : Int → Int} {n p : Int} {L : Int} (hL : mLay T FR) (eb : AI 101 = b) (hb : ∀ i : Int, 0 ≤ b i ∧ b i ≤ 255) (hn2 : n ≤ 640) (hA : tAt FI b n p) (h2a : 0 ≤ AI 112 2) (h2b : AI 112 2 ≤ 3) (h3a : 0 ≤ AI 112 3) (h3b : AI 112 3 ≤ 16) (hLL : 2 ≤ L) (bo : zKw b n p 5) (hO : ∀ (FI1 : zFI) (N1 : Int → Int) (p1 : Int), zFo FI FI1 → lGood b n p (AI 112) L N1 p1 → tAt FI1 b n p1 → Post (zI 1) T FR AR FI1 (zrow AI 112 N1)) (hB : ∀ (FI1 : zFI) (M : Int → Int) (f pl : Int), zFt FI FI1 → FI1 100 8 = f → FI1 100 9 = pl → lFault b n p (AI 112) L f pl → Post (zI 0) T FR AR FI1 (zrow AI 112 M)) : zMet M_X9_readItem [zR 100, zI 0] T FR AR FI AI Post := by
  refine zMet.of [some (zR 100), some (zI 0), none] rfl rfl rfl (fun G C => ?_)
  have hs := hA.sort
  rw [← zrow_self AI 112]
  generalize hN : AI 112 = N at *
  have ok := lOk_j (N := N) bo (by decide) hLL
  refine zv_aload_n C dX9_readItem_0 rfl rfl ?_
  refine zv_getR C dX9_readItem_1 f_X9_77 hL.1 rfl hL.2.2.2.2.2.2.2.2.2.2.2.2.2.2.2.2.1 ?_
  refine zv_iconst C dX9_readItem_4 rfl ?_
  refine zv_iaload C dX9_readItem_5 hL.2.2.2.1 ⟨by omega, by omega⟩ ?_
  rw [zrow_eq]
  refine zv_bipush C dX9_readItem_6 rfl ?_
  refine zv_icmp_ne C 17 dX9_readItem_8 rfl (fun h8 => ?_) (fun h8 => ?_)
  · refine zv_aload_n C dX9_readItem_17 rfl rfl ?_
    refine zv_cVv0_0 C dX9_readItem_18 k_X9_go l_X9_117 hL.1 rfl ⟨Nat.le_of_ble_eq_true rfl, Nat.le_of_ble_eq_true rfl⟩ ⟨rfl, rfl⟩ ⟨Nat.le_of_ble_eq_true rfl, Nat.le_of_ble_eq_true rfl⟩ rfl rfl ?_
    refine s2_go hL (by rw [zrow_neF (by decide)]; exact eb) hb hn2 hA (by have ht := bo.1; omega) (fun F1 f1 a1 => ?_)
    refine zv_sipush C dX9_readItem_21 rfl ?_
    refine zv_iconst C dX9_readItem_24 rfl ?_
    refine zv_aload_n C dX9_readItem_25 rfl rfl ?_
    refine zv_getR C dX9_readItem_26 f_X9_77 hL.1 rfl hL.2.2.2.2.2.2.2.2.2.2.2.2.2.2.2.2.1 ?_
    refine zv_iconst C dX9_readItem_29 rfl ?_
    refine zv_iaload C dX9_readItem_30 hL.2.2.2.1 ⟨by omega, by omega⟩ ?_
    rw [zrow_eq]
    refine zv_imul C dX9_readItem_31 ⟨by omega, by omega⟩ ?_
    refine zv_iadd C dX9_readItem_32 ⟨by omega, by omega⟩ ?_
    refine zv_istore_2 C dX9_readItem_33 rfl rfl ?_
    refine zv_aload_n C dX9_readItem_34 rfl rfl ?_
    refine zv_iload_n C dX9_readItem_35 rfl ?_
    refine zv_iconst C dX9_readItem_36 rfl ?_
    refine zv_iadd C dX9_readItem_37 ⟨by omega, by omega⟩ ?_
    refine zv_iconst C dX9_readItem_38 rfl ?_
    refine zv_aload_n C dX9_readItem_39 rfl rfl ?_
    refine zv_getR C dX9_readItem_40 f_X9_77 hL.1 rfl hL.2.2.2.2.2.2.2.2.2.2.2.2.2.2.2.2.1 ?_
    refine zv_iconst C dX9_readItem_43 rfl ?_
    refine zv_iaload C dX9_readItem_44 hL.2.2.2.1 ⟨by omega, by omega⟩ ?_
    rw [zrow_eq]
    refine zv_iconst C dX9_readItem_45 rfl ?_
    refine zv_isub C dX9_readItem_46 ⟨by omega, by omega⟩ ?_
    refine zv_cVi0_3 C dX9_readItem_47 k_X9_told l_X9_147 hL.1 rfl ⟨Nat.le_of_ble_eq_true rfl, Nat.le_of_ble_eq_true rfl⟩ ⟨rfl, rfl⟩ ⟨Nat.le_of_ble_eq_true rfl, Nat.le_of_ble_eq_true rfl⟩ rfl rfl ?_
    refine s_X9_told hL (by rw [zrow_neF (by decide)]; exact eb) hb hn2 a1 (by omega) (by omega) (fun c1 F2 f2 a2 => ?_) (fun c1 F2 f2 y8 y9 => ?_)
    · try rw [zrow_set]
      refine zv_if_eq C 99 dX9_readItem_50 rfl (fun h => absurd h (by omega)) (fun _ => ?_)
      refine zv_aload_n C dX9_readItem_53 rfl rfl ?_
      refine zv_iload_n C dX9_readItem_54 rfl ?_
      refine zv_iconst C dX9_readItem_55 rfl ?_
      refine zv_iadd C dX9_readItem_56 ⟨by omega, by omega⟩ ?_
      refine zv_iconst C dX9_readItem_57 rfl ?_
      refine zv_ldc (x := 99999) C dX9_readItem_58 c_X9_146 rfl ?_
      refine zv_cVi0_3 C dX9_readItem_60 k_X9_told l_X9_147 hL.1 rfl ⟨Nat.le_of_ble_eq_true rfl, Nat.le_of_ble_eq_true rfl⟩ ⟨rfl, rfl⟩ ⟨Nat.le_of_ble_eq_true rfl, Nat.le_of_ble_eq_true rfl⟩ rfl rfl ?_
      refine s_X9_told hL (by rw [zrow_neF (by decide)]; exact eb) hb hn2 a2 (by omega) (by omega) (fun c2 F3 f3 a3 => ?_) (fun c2 F3 f3 y8 y9 => ?_)
      · try rw [zrow_set]
        refine zv_if_eq C 99 dX9_readItem_63 rfl (fun h => absurd h (by omega)) (fun _ => ?_)
        refine zv_aload_n C dX9_readItem_66 rfl rfl ?_
        refine zv_iload_n C dX9_readItem_67 rfl ?_
        refine zv_iconst C dX9_readItem_68 rfl ?_
        refine zv_iadd C dX9_readItem_69 ⟨by omega, by omega⟩ ?_
        refine zv_iconst C dX9_readItem_70 rfl ?_
        refine zv_bipush C dX9_readItem_71 rfl ?_
        refine zv_cVi0_3 C dX9_readItem_73 k_X9_told l_X9_147 hL.1 rfl ⟨Nat.le_of_ble_eq_true rfl, Nat.le_of_ble_eq_true rfl⟩ ⟨rfl, rfl⟩ ⟨Nat.le_of_ble_eq_true rfl, Nat.le_of_ble_eq_true rfl⟩ rfl rfl ?_
        refine s_X9_told hL (by rw [zrow_neF (by decide)]; exact eb) hb hn2 a3 (by omega) (by omega) (fun c3 F4 f4 a4 => ?_) (fun c3 F4 f4 y8 y9 => ?_)
        · try rw [zrow_set]
          refine zv_if_eq C 99 dX9_readItem_76 rfl (fun h => absurd h (by omega)) (fun _ => ?_)
          refine zv_aload_n C dX9_readItem_79 rfl rfl ?_
          refine zv_iload_n C dX9_readItem_80 rfl ?_
          refine zv_iconst C dX9_readItem_81 rfl ?_
          refine zv_iadd C dX9_readItem_82 ⟨by omega, by omega⟩ ?_
          refine zv_aload_n C dX9_readItem_83 rfl rfl ?_
          refine zv_getR C dX9_readItem_84 f_X9_77 hL.1 rfl hL.2.2.2.2.2.2.2.2.2.2.2.2.2.2.2.2.1 ?_
          refine zv_iload_n C dX9_readItem_87 rfl ?_
          refine zv_iconst C dX9_readItem_88 rfl ?_
          refine zv_iadd C dX9_readItem_89 ⟨by omega, by omega⟩ ?_
          refine zv_iaload C dX9_readItem_90 hL.2.2.2.1 ⟨by omega, by omega⟩ ?_
          rw [zrow_eq, zu1_eq]
          refine zv_bipush C dX9_readItem_91 rfl ?_
          refine zv_cVi0_3 C dX9_readItem_93 k_X9_told l_X9_147 hL.1 rfl ⟨Nat.le_of_ble_eq_true rfl, Nat.le_of_ble_eq_true rfl⟩ ⟨rfl, rfl⟩ ⟨Nat.le_of_ble_eq_true rfl, Nat.le_of_ble_eq_true rfl⟩ rfl rfl ?_
          refine s_X9_told hL (by rw [zrow_neF (by decide)]; exact eb) hb hn2 a4 (by omega) (by omega) (fun c4 F5 f5 a5 => ?_) (fun c4 F5 f5 y8 y9 => ?_)
          · try rw [zrow_set]
            refine zv_if_ne C 101 dX9_readItem_96 rfl (fun _ => ?_) (fun h => absurd h (by omega))
            refine zv_aload_n C dX9_readItem_101 rfl rfl ?_
            refine zv_getR C dX9_readItem_102 f_X9_77 hL.1 rfl hL.2.2.2.2.2.2.2.2.2.2.2.2.2.2.2.2.1 ?_
            refine zv_iload_n C dX9_readItem_105 rfl ?_
            refine zv_iconst C dX9_readItem_106 rfl ?_
            refine zv_iadd C dX9_readItem_107 ⟨by omega, by omega⟩ ?_
            refine zv_iload_n C dX9_readItem_108 rfl ?_
            refine zv_if_eq C 116 dX9_readItem_109 rfl (fun _ => ?_) (fun h => absurd h (by omega))
            refine zv_iconst C dX9_readItem_116 rfl ?_
            refine zv_iastore C dX9_readItem_117 hL.2.2.2.1 ⟨by omega, by omega⟩ ?_
            rw [zrow_set]
            refine zv_aload_n C dX9_readItem_118 rfl rfl ?_
            refine zv_getR C dX9_readItem_119 f_X9_77 hL.1 rfl hL.2.2.2.2.2.2.2.2.2.2.2.2.2.2.2.2.1 ?_
            refine zv_iconst C dX9_readItem_122 rfl ?_
            refine zv_dup2 C dX9_readItem_123 rfl rfl ?_
            refine zv_iaload C dX9_readItem_124 hL.2.2.2.1 ⟨by omega, by omega⟩ ?_
            try simp (disch := omega) only [zrow_eq, zu1_ne, zu1_eq]
            refine zv_iconst C dX9_readItem_125 rfl ?_
            refine zv_iadd C dX9_readItem_126 ⟨by omega, by omega⟩ ?_
            refine zv_iastore C dX9_readItem_127 hL.2.2.2.1 ⟨by omega, by omega⟩ ?_
            rw [zrow_set]
            refine zv_aload_n C dX9_readItem_128 rfl rfl ?_
            refine zv_cVi0_0 C dX9_readItem_129 k_X9_readEnd l_X9_143 hL.1 rfl ⟨Nat.le_of_ble_eq_true rfl, Nat.le_of_ble_eq_true rfl⟩ ⟨rfl, rfl⟩ ⟨Nat.le_of_ble_eq_true rfl, Nat.le_of_ble_eq_true rfl⟩ rfl rfl ?_
            refine s_X9_readEnd hL (by rw [zrow_neF (by decide)]; exact eb) hb hn2 a5 (fun c5 F6 f6 a6 => ?_) (fun c5 F6 f6 y8 y9 => ?_)
            · refine zv_ireturn C dX9_readItem_132 rfl rfl rfl rfl ?_
              exact hO _ _ _ (((((f1.o.trans f2).trans f3).trans f4).trans f5).trans f6) ⟨5, ok, (show ¬ lFull N 5 by unfold lFull; omega), ⟨(sSt_s (sSt_s (sSt_s (sSt_s sSt_0 c1) c2) c3) c4), c5⟩, rfl, rfl⟩ a6
            · refine zv_ireturn C dX9_readItem_132 rfl rfl rfl rfl ?_
              exact hB _ _ _ _ (((((f1.o.trans f2).trans f3).trans f4).trans f5).t.trans f6) rfl rfl (lF_s ok (show ¬ lFull N 5 by unfold lFull; omega) (Or.inr ⟨(sSt_s (sSt_s (sSt_s (sSt_s sSt_0 c1) c2) c3) c4), c5, y8, y9⟩))
          · try rw [zrow_set]
            refine zv_if_ne C 101 dX9_readItem_96 rfl (fun h => absurd h (by omega)) (fun _ => ?_)
            refine zv_iconst C dX9_readItem_99 rfl ?_
            refine zv_ireturn C dX9_readItem_100 rfl rfl rfl rfl ?_
            first
            | exact hB _ _ _ _ ((((f1.o.trans f2).trans f3).trans f4).t.trans f5) rfl rfl (lF_s ok (show ¬ lFull N 5 by unfold lFull; omega) (sBd_n 3 (by decide) (sSt_s (sSt_s (sSt_s sSt_0 c1) c2) c3) c4 y8 y9))
            | exact hB _ _ _ _ (((f1.o.trans f2).trans f3).t.trans f4) rfl rfl (lF_s ok (show ¬ lFull N 5 by unfold lFull; omega) (sBd_n 2 (by decide) (sSt_s (sSt_s sSt_0 c1) c2) c3 y8 y9))
            | exact hB _ _ _ _ ((f1.o.trans f2).t.trans f3) rfl rfl (lF_s ok (show ¬ lFull N 5 by unfold lFull; omega) (sBd_n 1 (by decide) (sSt_s sSt_0 c1) c2 y8 y9))
            | exact hB _ _ _ _ (f1.o.t.trans f2) rfl rfl (lF_s ok (show ¬ lFull N 5 by unfold lFull; omega) (sBd_n 0 (by decide) sSt_0 c1 y8 y9))
        · try rw [zrow_set]
          refine zv_if_eq C 99 dX9_readItem_76 rfl (fun _ => ?_) (fun h => absurd h (by omega))
          refine zv_iconst C dX9_readItem_99 rfl ?_
          refine zv_ireturn C dX9_readItem_100 rfl rfl rfl rfl ?_
          first
          | exact hB _ _ _ _ ((((f1.o.trans f2).trans f3).trans f4).t.trans f5) rfl rfl (lF_s ok (show ¬ lFull N 5 by unfold lFull; omega) (sBd_n 3 (by decide) (sSt_s (sSt_s (sSt_s sSt_0 c1) c2) c3) c4 y8 y9))
          | exact hB _ _ _ _ (((f1.o.trans f2).trans f3).t.trans f4) rfl rfl (lF_s ok (show ¬ lFull N 5 by unfold lFull; omega) (sBd_n 2 (by decide) (sSt_s (sSt_s sSt_0 c1) c2) c3 y8 y9))
          | exact hB _ _ _ _ ((f1.o.trans f2).t.trans f3) rfl rfl (lF_s ok (show ¬ lFull N 5 by unfold lFull; omega) (sBd_n 1 (by decide) (sSt_s sSt_0 c1) c2 y8 y9))
          | exact hB _ _ _ _ (f1.o.t.trans f2) rfl rfl (lF_s ok (show ¬ lFull N 5 by unfold lFull; omega) (sBd_n 0 (by decide) sSt_0 c1 y8 y9))
      · try rw [zrow_set]
        refine zv_if_eq C 99 dX9_readItem_63 rfl (fun _ => ?_) (fun h => absurd h (by omega))
        refine zv_iconst C dX9_readItem_99 rfl ?_
        refine zv_ireturn C dX9_readItem_100 rfl rfl rfl rfl ?_
        first
        | exact hB _ _ _ _ ((((f1.o.trans f2).trans f3).trans f4).t.trans f5) rfl rfl (lF_s ok (show ¬ lFull N 5 by unfold lFull; omega) (sBd_n 3 (by decide) (sSt_s (sSt_s (sSt_s sSt_0 c1) c2) c3) c4 y8 y9))
        | exact hB _ _ _ _ (((f1.o.trans f2).trans f3).t.trans f4) rfl rfl (lF_s ok (show ¬ lFull N 5 by unfold lFull; omega) (sBd_n 2 (by decide) (sSt_s (sSt_s sSt_0 c1) c2) c3 y8 y9))
        | exact hB _ _ _ _ ((f1.o.trans f2).t.trans f3) rfl rfl (lF_s ok (show ¬ lFull N 5 by unfold lFull; omega) (sBd_n 1 (by decide) (sSt_s sSt_0 c1) c2 y8 y9))
        | exact hB _ _ _ _ (f1.o.t.trans f2) rfl rfl (lF_s ok (show ¬ lFull N 5 by unfold lFull; omega) (sBd_n 0 (by decide) sSt_0 c1 y8 y9))
    · try rw [zrow_set]
      refine zv_if_eq C 99 dX9_readItem_50 rfl (fun _ => ?_) (fun h => absurd h (by omega))
      refine zv_iconst C dX9_readItem_99 rfl ?_
      refine zv_ireturn C dX9_readItem_100 rfl rfl rfl rfl ?_
      first
      | exact hB _ _ _ _ ((((f1.o.trans f2).trans f3).trans f4).t.trans f5) rfl rfl (lF_s ok (show ¬ lFull N 5 by unfold lFull; omega) (sBd_n 3 (by decide) (sSt_s (sSt_s (sSt_s sSt_0 c1) c2) c3) c4 y8 y9))
      | exact hB _ _ _ _ (((f1.o.trans f2).trans f3).t.trans f4) rfl rfl (lF_s ok (show ¬ lFull N 5 by unfold lFull; omega) (sBd_n 2 (by decide) (sSt_s (sSt_s sSt_0 c1) c2) c3 y8 y9))
      | exact hB _ _ _ _ ((f1.o.trans f2).t.trans f3) rfl rfl (lF_s ok (show ¬ lFull N 5 by unfold lFull; omega) (sBd_n 1 (by decide) (sSt_s sSt_0 c1) c2 y8 y9))
      | exact hB _ _ _ _ (f1.o.t.trans f2) rfl rfl (lF_s ok (show ¬ lFull N 5 by unfold lFull; omega) (sBd_n 0 (by decide) sSt_0 c1 y8 y9))
  · refine zv_aload_n C dX9_readItem_11 rfl rfl ?_
    refine zv_iconst C dX9_readItem_12 rfl ?_
    refine zv_cVi0_1 C dX9_readItem_13 k_X9_bad l_X9_110 hL.1 rfl ⟨Nat.le_of_ble_eq_true rfl, Nat.le_of_ble_eq_true rfl⟩ ⟨rfl, rfl⟩ ⟨Nat.le_of_ble_eq_true rfl, Nat.le_of_ble_eq_true rfl⟩ rfl rfl ?_
    refine s_X9_bad hL ?_
    refine zv_ireturn C dX9_readItem_16 rfl rfl rfl rfl ?_
    refine hB _ N _ _ ((zFt.rfl.set (by decide)).set (by decide)) rfl rfl ?_
    have ht := bo.1
    rw [zsF_ne (by decide), zsF_eq, zsF_eq, if_neg (by omega), hs.2.2.2.2.2]
    exact lF_f ok (by unfold lFull; omega)
set_option maxRecDepth 20000 in
theorem s_X9_readLoss {T : zTt} {FR : zFR} {AR : zAR} {FI : zFI} {AI : zAI} {Post : zPost} {b : Int → Int} {n p : Int} {L : Int} (hL : mLay T FR) (eb : AI 101 = b) (hb : ∀ i : Int, 0 ≤ b i ∧ b i ≤ 255) (hn2 : n ≤ 640) (hA : tAt FI b n p) (h2a : 0 ≤ AI 112 2) (h2b : AI 112 2 ≤ 3) (h4a : 0 ≤ AI 112 4) (h4b : AI 112 4 ≤ 10) (hLL : 2 ≤ L) (bo : zKw b n p 6) (hO : ∀ (FI1 : zFI) (N1 : Int → Int) (p1 : Int), zFo FI FI1 → lGood b n p (AI 112) L N1 p1 → tAt FI1 b n p1 → Post (zI 1) T FR AR FI1 (zrow AI 112 N1)) (hB : ∀ (FI1 : zFI) (M : Int → Int) (f pl : Int), zFt FI FI1 → FI1 100 8 = f → FI1 100 9 = pl → lFault b n p (AI 112) L f pl → Post (zI 0) T FR AR FI1 (zrow AI 112 M)) : zMet M_X9_readLoss [zR 100] T FR AR FI AI Post := by
  refine zMet.of [some (zR 100), none] rfl rfl rfl (fun G C => ?_)
  have hs := hA.sort
  rw [← zrow_self AI 112]
  generalize hN : AI 112 = N at *
  have ok := lOk_j (N := N) bo (by decide) hLL
  refine zv_aload_n C dX9_readLoss_0 rfl rfl ?_
  refine zv_getR C dX9_readLoss_1 f_X9_77 hL.1 rfl hL.2.2.2.2.2.2.2.2.2.2.2.2.2.2.2.2.1 ?_
  refine zv_iconst C dX9_readLoss_4 rfl ?_
  refine zv_iaload C dX9_readLoss_5 hL.2.2.2.1 ⟨by omega, by omega⟩ ?_
  rw [zrow_eq]
  refine zv_bipush C dX9_readLoss_6 rfl ?_
  refine zv_icmp_ne C 17 dX9_readLoss_8 rfl (fun h8 => ?_) (fun h8 => ?_)
  · refine zv_aload_n C dX9_readLoss_17 rfl rfl ?_
    refine zv_cVv0_0 C dX9_readLoss_18 k_X9_go l_X9_117 hL.1 rfl ⟨Nat.le_of_ble_eq_true rfl, Nat.le_of_ble_eq_true rfl⟩ ⟨rfl, rfl⟩ ⟨Nat.le_of_ble_eq_true rfl, Nat.le_of_ble_eq_true rfl⟩ rfl rfl ?_
    refine s2_go hL (by rw [zrow_neF (by decide)]; exact eb) hb hn2 hA (by have ht := bo.1; omega) (fun F1 f1 a1 => ?_)
    refine zv_sipush C dX9_readLoss_21 rfl ?_
    refine zv_iconst C dX9_readLoss_24 rfl ?_
    refine zv_aload_n C dX9_readLoss_25 rfl rfl ?_
    refine zv_getR C dX9_readLoss_26 f_X9_77 hL.1 rfl hL.2.2.2.2.2.2.2.2.2.2.2.2.2.2.2.2.1 ?_
    refine zv_iconst C dX9_readLoss_29 rfl ?_
    refine zv_iaload C dX9_readLoss_30 hL.2.2.2.1 ⟨by omega, by omega⟩ ?_
    rw [zrow_eq]
    refine zv_imul C dX9_readLoss_31 ⟨by omega, by omega⟩ ?_
    refine zv_iadd C dX9_readLoss_32 ⟨by omega, by omega⟩ ?_
    refine zv_istore_1 C dX9_readLoss_33 rfl rfl ?_
    refine zv_aload_n C dX9_readLoss_34 rfl rfl ?_
    refine zv_iload_n C dX9_readLoss_35 rfl ?_
    refine zv_iconst C dX9_readLoss_36 rfl ?_
    refine zv_iadd C dX9_readLoss_37 ⟨by omega, by omega⟩ ?_
    refine zv_iconst C dX9_readLoss_38 rfl ?_
    refine zv_aload_n C dX9_readLoss_39 rfl rfl ?_
    refine zv_getR C dX9_readLoss_40 f_X9_77 hL.1 rfl hL.2.2.2.2.2.2.2.2.2.2.2.2.2.2.2.2.1 ?_
    refine zv_iconst C dX9_readLoss_43 rfl ?_
    refine zv_iaload C dX9_readLoss_44 hL.2.2.2.1 ⟨by omega, by omega⟩ ?_
    rw [zrow_eq]
    refine zv_iconst C dX9_readLoss_45 rfl ?_
    refine zv_isub C dX9_readLoss_46 ⟨by omega, by omega⟩ ?_
    refine zv_cVi0_3 C dX9_readLoss_47 k_X9_told l_X9_147 hL.1 rfl ⟨Nat.le_of_ble_eq_true rfl, Nat.le_of_ble_eq_true rfl⟩ ⟨rfl, rfl⟩ ⟨Nat.le_of_ble_eq_true rfl, Nat.le_of_ble_eq_true rfl⟩ rfl rfl ?_
    refine s_X9_told hL (by rw [zrow_neF (by decide)]; exact eb) hb hn2 a1 (by omega) (by omega) (fun c1 F2 f2 a2 => ?_) (fun c1 F2 f2 y8 y9 => ?_)
    · try rw [zrow_set]
      refine zv_if_eq C 79 dX9_readLoss_50 rfl (fun h => absurd h (by omega)) (fun _ => ?_)
      refine zv_aload_n C dX9_readLoss_53 rfl rfl ?_
      refine zv_iload_n C dX9_readLoss_54 rfl ?_
      refine zv_iconst C dX9_readLoss_55 rfl ?_
      refine zv_iadd C dX9_readLoss_56 ⟨by omega, by omega⟩ ?_
      refine zv_iconst C dX9_readLoss_57 rfl ?_
      refine zv_ldc (x := 99999) C dX9_readLoss_58 c_X9_146 rfl ?_
      refine zv_cVi0_3 C dX9_readLoss_60 k_X9_told l_X9_147 hL.1 rfl ⟨Nat.le_of_ble_eq_true rfl, Nat.le_of_ble_eq_true rfl⟩ ⟨rfl, rfl⟩ ⟨Nat.le_of_ble_eq_true rfl, Nat.le_of_ble_eq_true rfl⟩ rfl rfl ?_
      refine s_X9_told hL (by rw [zrow_neF (by decide)]; exact eb) hb hn2 a2 (by omega) (by omega) (fun c2 F3 f3 a3 => ?_) (fun c2 F3 f3 y8 y9 => ?_)
      · try rw [zrow_set]
        refine zv_if_eq C 79 dX9_readLoss_63 rfl (fun h => absurd h (by omega)) (fun _ => ?_)
        refine zv_aload_n C dX9_readLoss_66 rfl rfl ?_
        refine zv_iload_n C dX9_readLoss_67 rfl ?_
        refine zv_iconst C dX9_readLoss_68 rfl ?_
        refine zv_iadd C dX9_readLoss_69 ⟨by omega, by omega⟩ ?_
        refine zv_iconst C dX9_readLoss_70 rfl ?_
        refine zv_bipush C dX9_readLoss_71 rfl ?_
        refine zv_cVi0_3 C dX9_readLoss_73 k_X9_told l_X9_147 hL.1 rfl ⟨Nat.le_of_ble_eq_true rfl, Nat.le_of_ble_eq_true rfl⟩ ⟨rfl, rfl⟩ ⟨Nat.le_of_ble_eq_true rfl, Nat.le_of_ble_eq_true rfl⟩ rfl rfl ?_
        refine s_X9_told hL (by rw [zrow_neF (by decide)]; exact eb) hb hn2 a3 (by omega) (by omega) (fun c3 F4 f4 a4 => ?_) (fun c3 F4 f4 y8 y9 => ?_)
        · try rw [zrow_set]
          refine zv_if_ne C 81 dX9_readLoss_76 rfl (fun _ => ?_) (fun h => absurd h (by omega))
          refine zv_aload_n C dX9_readLoss_81 rfl rfl ?_
          refine zv_getR C dX9_readLoss_82 f_X9_77 hL.1 rfl hL.2.2.2.2.2.2.2.2.2.2.2.2.2.2.2.2.1 ?_
          refine zv_iload_n C dX9_readLoss_85 rfl ?_
          refine zv_iconst C dX9_readLoss_86 rfl ?_
          refine zv_iadd C dX9_readLoss_87 ⟨by omega, by omega⟩ ?_
          refine zv_aload_n C dX9_readLoss_88 rfl rfl ?_
          refine zv_getR C dX9_readLoss_89 f_X9_77 hL.1 rfl hL.2.2.2.2.2.2.2.2.2.2.2.2.2.2.2.2.1 ?_
          refine zv_iload_n C dX9_readLoss_92 rfl ?_
          refine zv_iconst C dX9_readLoss_93 rfl ?_
          refine zv_iadd C dX9_readLoss_94 ⟨by omega, by omega⟩ ?_
          refine zv_iaload C dX9_readLoss_95 hL.2.2.2.1 ⟨by omega, by omega⟩ ?_
          try simp (disch := omega) only [zrow_eq, zu1_ne, zu1_eq]
          refine zv_iastore C dX9_readLoss_96 hL.2.2.2.1 ⟨by omega, by omega⟩ ?_
          rw [zrow_set]
          refine zv_aload_n C dX9_readLoss_97 rfl rfl ?_
          refine zv_getR C dX9_readLoss_98 f_X9_77 hL.1 rfl hL.2.2.2.2.2.2.2.2.2.2.2.2.2.2.2.2.1 ?_
          refine zv_iconst C dX9_readLoss_101 rfl ?_
          refine zv_dup2 C dX9_readLoss_102 rfl rfl ?_
          refine zv_iaload C dX9_readLoss_103 hL.2.2.2.1 ⟨by omega, by omega⟩ ?_
          try simp (disch := omega) only [zrow_eq, zu1_ne, zu1_eq]
          refine zv_iconst C dX9_readLoss_104 rfl ?_
          refine zv_iadd C dX9_readLoss_105 ⟨by omega, by omega⟩ ?_
          refine zv_iastore C dX9_readLoss_106 hL.2.2.2.1 ⟨by omega, by omega⟩ ?_
          rw [zrow_set]
          refine zv_aload_n C dX9_readLoss_107 rfl rfl ?_
          refine zv_cVi0_0 C dX9_readLoss_108 k_X9_readEnd l_X9_143 hL.1 rfl ⟨Nat.le_of_ble_eq_true rfl, Nat.le_of_ble_eq_true rfl⟩ ⟨rfl, rfl⟩ ⟨Nat.le_of_ble_eq_true rfl, Nat.le_of_ble_eq_true rfl⟩ rfl rfl ?_
          refine s_X9_readEnd hL (by rw [zrow_neF (by decide)]; exact eb) hb hn2 a4 (fun c4 F5 f5 a5 => ?_) (fun c4 F5 f5 y8 y9 => ?_)
          · refine zv_ireturn C dX9_readLoss_111 rfl rfl rfl rfl ?_
            exact hO _ _ _ ((((f1.o.trans f2).trans f3).trans f4).trans f5) ⟨6, ok, (show ¬ lFull N 6 by unfold lFull; omega), ⟨(sSt_s (sSt_s (sSt_s sSt_0 c1) c2) c3), c4⟩, rfl, rfl⟩ a5
          · refine zv_ireturn C dX9_readLoss_111 rfl rfl rfl rfl ?_
            exact hB _ _ _ _ ((((f1.o.trans f2).trans f3).trans f4).t.trans f5) rfl rfl (lF_s ok (show ¬ lFull N 6 by unfold lFull; omega) (Or.inr ⟨(sSt_s (sSt_s (sSt_s sSt_0 c1) c2) c3), c4, y8, y9⟩))
        · try rw [zrow_set]
          refine zv_if_ne C 81 dX9_readLoss_76 rfl (fun h => absurd h (by omega)) (fun _ => ?_)
          refine zv_iconst C dX9_readLoss_79 rfl ?_
          refine zv_ireturn C dX9_readLoss_80 rfl rfl rfl rfl ?_
          first
          | exact hB _ _ _ _ (((f1.o.trans f2).trans f3).t.trans f4) rfl rfl (lF_s ok (show ¬ lFull N 6 by unfold lFull; omega) (sBd_n 2 (by decide) (sSt_s (sSt_s sSt_0 c1) c2) c3 y8 y9))
          | exact hB _ _ _ _ ((f1.o.trans f2).t.trans f3) rfl rfl (lF_s ok (show ¬ lFull N 6 by unfold lFull; omega) (sBd_n 1 (by decide) (sSt_s sSt_0 c1) c2 y8 y9))
          | exact hB _ _ _ _ (f1.o.t.trans f2) rfl rfl (lF_s ok (show ¬ lFull N 6 by unfold lFull; omega) (sBd_n 0 (by decide) sSt_0 c1 y8 y9))
      · try rw [zrow_set]
        refine zv_if_eq C 79 dX9_readLoss_63 rfl (fun _ => ?_) (fun h => absurd h (by omega))
        refine zv_iconst C dX9_readLoss_79 rfl ?_
        refine zv_ireturn C dX9_readLoss_80 rfl rfl rfl rfl ?_
        first
        | exact hB _ _ _ _ (((f1.o.trans f2).trans f3).t.trans f4) rfl rfl (lF_s ok (show ¬ lFull N 6 by unfold lFull; omega) (sBd_n 2 (by decide) (sSt_s (sSt_s sSt_0 c1) c2) c3 y8 y9))
        | exact hB _ _ _ _ ((f1.o.trans f2).t.trans f3) rfl rfl (lF_s ok (show ¬ lFull N 6 by unfold lFull; omega) (sBd_n 1 (by decide) (sSt_s sSt_0 c1) c2 y8 y9))
        | exact hB _ _ _ _ (f1.o.t.trans f2) rfl rfl (lF_s ok (show ¬ lFull N 6 by unfold lFull; omega) (sBd_n 0 (by decide) sSt_0 c1 y8 y9))
    · try rw [zrow_set]
      refine zv_if_eq C 79 dX9_readLoss_50 rfl (fun _ => ?_) (fun h => absurd h (by omega))
      refine zv_iconst C dX9_readLoss_79 rfl ?_
      refine zv_ireturn C dX9_readLoss_80 rfl rfl rfl rfl ?_
      first
      | exact hB _ _ _ _ (((f1.o.trans f2).trans f3).t.trans f4) rfl rfl (lF_s ok (show ¬ lFull N 6 by unfold lFull; omega) (sBd_n 2 (by decide) (sSt_s (sSt_s sSt_0 c1) c2) c3 y8 y9))
      | exact hB _ _ _ _ ((f1.o.trans f2).t.trans f3) rfl rfl (lF_s ok (show ¬ lFull N 6 by unfold lFull; omega) (sBd_n 1 (by decide) (sSt_s sSt_0 c1) c2 y8 y9))
      | exact hB _ _ _ _ (f1.o.t.trans f2) rfl rfl (lF_s ok (show ¬ lFull N 6 by unfold lFull; omega) (sBd_n 0 (by decide) sSt_0 c1 y8 y9))
  · refine zv_aload_n C dX9_readLoss_11 rfl rfl ?_
    refine zv_iconst C dX9_readLoss_12 rfl ?_
    refine zv_cVi0_1 C dX9_readLoss_13 k_X9_bad l_X9_110 hL.1 rfl ⟨Nat.le_of_ble_eq_true rfl, Nat.le_of_ble_eq_true rfl⟩ ⟨rfl, rfl⟩ ⟨Nat.le_of_ble_eq_true rfl, Nat.le_of_ble_eq_true rfl⟩ rfl rfl ?_
    refine s_X9_bad hL ?_
    refine zv_ireturn C dX9_readLoss_16 rfl rfl rfl rfl ?_
    refine hB _ N _ _ ((zFt.rfl.set (by decide)).set (by decide)) rfl rfl ?_
    have ht := bo.1
    rw [zsF_ne (by decide), zsF_eq, zsF_eq, if_neg (by omega), hs.2.2.2.2.2]
    exact lF_f ok (by unfold lFull; omega)
set_option maxRecDepth 20000 in
theorem s_X9_readLine {T : zTt} {FR : zFR} {AR : zAR} {FI : zFI} {AI : zAI} {Post : zPost} {b : Int → Int} {n p : Int} {L : Int} (hL : mLay T FR) (eb : AI 101 = b) (hb : ∀ i : Int, 0 ≤ b i ∧ b i ≤ 255) (hn2 : n ≤ 640) (hA : tAt FI b n p) (h2a : 0 ≤ AI 112 2) (h2b : AI 112 2 ≤ 3) (h3a : 0 ≤ AI 112 3) (h3b : AI 112 3 ≤ 16) (h4a : 0 ≤ AI 112 4) (h4b : AI 112 4 ≤ 10) (hLL : 2 ≤ L) (hno : ¬ (zKw b n p 1 ∧ L = 1 + AI 112 2)) (hne : tK b n p ≠ 1) (hO : ∀ (FI1 : zFI) (N1 : Int → Int) (p1 : Int), zFo FI FI1 → lGood b n p (AI 112) L N1 p1 → tAt FI1 b n p1 → Post (zI 1) T FR AR FI1 (zrow AI 112 N1)) (hB : ∀ (FI1 : zFI) (M : Int → Int) (f pl : Int), zFt FI FI1 → FI1 100 8 = f → FI1 100 9 = pl → lFault b n p (AI 112) L f pl → Post (zI 0) T FR AR FI1 (zrow AI 112 M)) : zMet M_X9_readLine [zR 100] T FR AR FI AI Post := by
  refine zMet.of [some (zR 100)] rfl rfl rfl (fun G C => ?_)
  have hs := hA.sort
  refine zv_aload_n C dX9_readLine_0 rfl rfl ?_
  refine zv_bipush C dX9_readLine_1 rfl ?_
  refine zv_bipush C dX9_readLine_3 rfl ?_
  refine zv_bipush C dX9_readLine_5 rfl ?_
  refine zv_bipush C dX9_readLine_7 rfl ?_
  refine zv_cSi0_4 C dX9_readLine_9 k_X9_four l_X9_58 ⟨Nat.le_of_ble_eq_true rfl, Nat.le_of_ble_eq_true rfl⟩ ⟨rfl, rfl⟩ ⟨Nat.le_of_ble_eq_true rfl, Nat.le_of_ble_eq_true rfl⟩ rfl rfl ?_
  refine s_X9_four (by decide) (by decide) (by decide) (by decide) ?_
  refine zv_cVi0_1 C dX9_readLine_12 k_X9_isWord l_X9_127 hL.1 rfl ⟨Nat.le_of_ble_eq_true rfl, Nat.le_of_ble_eq_true rfl⟩ ⟨rfl, rfl⟩ ⟨Nat.le_of_ble_eq_true rfl, Nat.le_of_ble_eq_true rfl⟩ rfl rfl ?_
  refine s_X9_isWord hL hA 2 (by decide) (by decide) (fun b2 => ?_) (fun b2 => ?_)
  · refine zv_if_eq C 24 dX9_readLine_15 rfl (fun h => absurd h (by omega)) (fun _ => ?_)
    refine zv_aload_n C dX9_readLine_18 rfl rfl ?_
    refine zv_iconst C dX9_readLine_19 rfl ?_
    refine zv_cVi0_1 C dX9_readLine_20 k_X9_readOfYear l_X9_150 hL.1 rfl ⟨Nat.le_of_ble_eq_true rfl, Nat.le_of_ble_eq_true rfl⟩ ⟨rfl, rfl⟩ ⟨Nat.le_of_ble_eq_true rfl, Nat.le_of_ble_eq_true rfl⟩ rfl rfl ?_
    refine s_X9_readOfYear1 hL eb hb hn2 hA h2a h2b hLL b2 (fun F1 N1 p1 f1 g1 a1 => ?_) (fun F1 M f pl f1 e8 e9 g1 => ?_)
    · refine zv_ireturn C dX9_readLine_23 rfl rfl rfl rfl ?_
      exact hO F1 N1 p1 f1 g1 a1
    · refine zv_ireturn C dX9_readLine_23 rfl rfl rfl rfl ?_
      exact hB F1 M f pl f1 e8 e9 g1
  · refine zv_if_eq C 24 dX9_readLine_15 rfl (fun _ => ?_) (fun h => absurd h (by omega))
    refine zv_aload_n C dX9_readLine_24 rfl rfl ?_
    refine zv_bipush C dX9_readLine_25 rfl ?_
    refine zv_bipush C dX9_readLine_27 rfl ?_
    refine zv_bipush C dX9_readLine_29 rfl ?_
    refine zv_bipush C dX9_readLine_31 rfl ?_
    refine zv_bipush C dX9_readLine_33 rfl ?_
    refine zv_bipush C dX9_readLine_35 rfl ?_
    refine zv_cSi0_6 C dX9_readLine_37 k_X9_six l_X9_123 ⟨Nat.le_of_ble_eq_true rfl, Nat.le_of_ble_eq_true rfl⟩ ⟨rfl, rfl⟩ ⟨Nat.le_of_ble_eq_true rfl, Nat.le_of_ble_eq_true rfl⟩ rfl rfl ?_
    refine s_X9_six (by decide) (by decide) (by decide) (by decide) (by decide) (by decide) ?_
    refine zv_cVi0_1 C dX9_readLine_40 k_X9_isWord l_X9_127 hL.1 rfl ⟨Nat.le_of_ble_eq_true rfl, Nat.le_of_ble_eq_true rfl⟩ ⟨rfl, rfl⟩ ⟨Nat.le_of_ble_eq_true rfl, Nat.le_of_ble_eq_true rfl⟩ rfl rfl ?_
    refine s_X9_isWord hL hA 3 (by decide) (by decide) (fun b3 => ?_) (fun b3 => ?_)
    · refine zv_if_eq C 52 dX9_readLine_43 rfl (fun h => absurd h (by omega)) (fun _ => ?_)
      refine zv_aload_n C dX9_readLine_46 rfl rfl ?_
      refine zv_iconst C dX9_readLine_47 rfl ?_
      refine zv_cVi0_1 C dX9_readLine_48 k_X9_readOfYear l_X9_150 hL.1 rfl ⟨Nat.le_of_ble_eq_true rfl, Nat.le_of_ble_eq_true rfl⟩ ⟨rfl, rfl⟩ ⟨Nat.le_of_ble_eq_true rfl, Nat.le_of_ble_eq_true rfl⟩ rfl rfl ?_
      refine s_X9_readOfYear0 hL eb hb hn2 hA h2a h2b hLL b3 (fun F1 N1 p1 f1 g1 a1 => ?_) (fun F1 M f pl f1 e8 e9 g1 => ?_)
      · refine zv_ireturn C dX9_readLine_51 rfl rfl rfl rfl ?_
        exact hO F1 N1 p1 f1 g1 a1
      · refine zv_ireturn C dX9_readLine_51 rfl rfl rfl rfl ?_
        exact hB F1 M f pl f1 e8 e9 g1
    · refine zv_if_eq C 52 dX9_readLine_43 rfl (fun _ => ?_) (fun h => absurd h (by omega))
      refine zv_aload_n C dX9_readLine_52 rfl rfl ?_
      refine zv_ldc2 (x := 27) C dX9_readLine_53 c_X9_48 rfl ?_
      refine zv_bipush C dX9_readLine_56 rfl ?_
      refine zv_bipush C dX9_readLine_58 rfl ?_
      refine zv_bipush C dX9_readLine_60 rfl ?_
      refine zv_bipush C dX9_readLine_62 rfl ?_
      refine zv_bipush C dX9_readLine_64 rfl ?_
      refine zv_bipush C dX9_readLine_66 rfl ?_
      refine zv_cSi0_6 C dX9_readLine_68 k_X9_six l_X9_123 ⟨Nat.le_of_ble_eq_true rfl, Nat.le_of_ble_eq_true rfl⟩ ⟨rfl, rfl⟩ ⟨Nat.le_of_ble_eq_true rfl, Nat.le_of_ble_eq_true rfl⟩ rfl rfl ?_
      refine s_X9_six (by decide) (by decide) (by decide) (by decide) (by decide) (by decide) ?_
      refine zv_lmul C dX9_readLine_71 ⟨by omega, by omega⟩ ?_
      refine zv_ldc2 (x := 5) C dX9_readLine_72 c_X9_154 rfl ?_
      refine zv_ladd C dX9_readLine_75 ⟨by omega, by omega⟩ ?_
      refine zv_cVi0_1 C dX9_readLine_76 k_X9_isWord l_X9_127 hL.1 rfl ⟨Nat.le_of_ble_eq_true rfl, Nat.le_of_ble_eq_true rfl⟩ ⟨rfl, rfl⟩ ⟨Nat.le_of_ble_eq_true rfl, Nat.le_of_ble_eq_true rfl⟩ rfl rfl ?_
      refine s_X9_isWord hL hA 4 (by decide) (by decide) (fun b4 => ?_) (fun b4 => ?_)
      · refine zv_if_eq C 88 dX9_readLine_79 rfl (fun h => absurd h (by omega)) (fun _ => ?_)
        refine zv_aload_n C dX9_readLine_82 rfl rfl ?_
        refine zv_iconst C dX9_readLine_83 rfl ?_
        refine zv_cVi0_1 C dX9_readLine_84 k_X9_readItem l_X9_156 hL.1 rfl ⟨Nat.le_of_ble_eq_true rfl, Nat.le_of_ble_eq_true rfl⟩ ⟨rfl, rfl⟩ ⟨Nat.le_of_ble_eq_true rfl, Nat.le_of_ble_eq_true rfl⟩ rfl rfl ?_
        refine s_X9_readItem1 hL eb hb hn2 hA h2a h2b h3a h3b hLL b4 (fun F1 N1 p1 f1 g1 a1 => ?_) (fun F1 M f pl f1 e8 e9 g1 => ?_)
        · refine zv_ireturn C dX9_readLine_87 rfl rfl rfl rfl ?_
          exact hO F1 N1 p1 f1 g1 a1
        · refine zv_ireturn C dX9_readLine_87 rfl rfl rfl rfl ?_
          exact hB F1 M f pl f1 e8 e9 g1
      · refine zv_if_eq C 88 dX9_readLine_79 rfl (fun _ => ?_) (fun h => absurd h (by omega))
        refine zv_aload_n C dX9_readLine_88 rfl rfl ?_
        refine zv_ldc2 (x := 531441) C dX9_readLine_89 c_X9_159 rfl ?_
        refine zv_bipush C dX9_readLine_92 rfl ?_
        refine zv_bipush C dX9_readLine_94 rfl ?_
        refine zv_bipush C dX9_readLine_96 rfl ?_
        refine zv_bipush C dX9_readLine_98 rfl ?_
        refine zv_bipush C dX9_readLine_100 rfl ?_
        refine zv_bipush C dX9_readLine_102 rfl ?_
        refine zv_cSi0_6 C dX9_readLine_104 k_X9_six l_X9_123 ⟨Nat.le_of_ble_eq_true rfl, Nat.le_of_ble_eq_true rfl⟩ ⟨rfl, rfl⟩ ⟨Nat.le_of_ble_eq_true rfl, Nat.le_of_ble_eq_true rfl⟩ rfl rfl ?_
        refine s_X9_six (by decide) (by decide) (by decide) (by decide) (by decide) (by decide) ?_
        refine zv_lmul C dX9_readLine_107 ⟨by omega, by omega⟩ ?_
        refine zv_bipush C dX9_readLine_108 rfl ?_
        refine zv_bipush C dX9_readLine_110 rfl ?_
        refine zv_bipush C dX9_readLine_112 rfl ?_
        refine zv_bipush C dX9_readLine_114 rfl ?_
        refine zv_cSi0_4 C dX9_readLine_116 k_X9_four l_X9_58 ⟨Nat.le_of_ble_eq_true rfl, Nat.le_of_ble_eq_true rfl⟩ ⟨rfl, rfl⟩ ⟨Nat.le_of_ble_eq_true rfl, Nat.le_of_ble_eq_true rfl⟩ rfl rfl ?_
        refine s_X9_four (by decide) (by decide) (by decide) (by decide) ?_
        refine zv_ladd C dX9_readLine_119 ⟨by omega, by omega⟩ ?_
        refine zv_cVi0_1 C dX9_readLine_120 k_X9_isWord l_X9_127 hL.1 rfl ⟨Nat.le_of_ble_eq_true rfl, Nat.le_of_ble_eq_true rfl⟩ ⟨rfl, rfl⟩ ⟨Nat.le_of_ble_eq_true rfl, Nat.le_of_ble_eq_true rfl⟩ rfl rfl ?_
        refine s_X9_isWord hL hA 5 (by decide) (by decide) (fun b5 => ?_) (fun b5 => ?_)
        · refine zv_if_eq C 132 dX9_readLine_123 rfl (fun h => absurd h (by omega)) (fun _ => ?_)
          refine zv_aload_n C dX9_readLine_126 rfl rfl ?_
          refine zv_iconst C dX9_readLine_127 rfl ?_
          refine zv_cVi0_1 C dX9_readLine_128 k_X9_readItem l_X9_156 hL.1 rfl ⟨Nat.le_of_ble_eq_true rfl, Nat.le_of_ble_eq_true rfl⟩ ⟨rfl, rfl⟩ ⟨Nat.le_of_ble_eq_true rfl, Nat.le_of_ble_eq_true rfl⟩ rfl rfl ?_
          refine s_X9_readItem0 hL eb hb hn2 hA h2a h2b h3a h3b hLL b5 (fun F1 N1 p1 f1 g1 a1 => ?_) (fun F1 M f pl f1 e8 e9 g1 => ?_)
          · refine zv_ireturn C dX9_readLine_131 rfl rfl rfl rfl ?_
            exact hO F1 N1 p1 f1 g1 a1
          · refine zv_ireturn C dX9_readLine_131 rfl rfl rfl rfl ?_
            exact hB F1 M f pl f1 e8 e9 g1
        · refine zv_if_eq C 132 dX9_readLine_123 rfl (fun _ => ?_) (fun h => absurd h (by omega))
          refine zv_aload_n C dX9_readLine_132 rfl rfl ?_
          refine zv_bipush C dX9_readLine_133 rfl ?_
          refine zv_bipush C dX9_readLine_135 rfl ?_
          refine zv_bipush C dX9_readLine_137 rfl ?_
          refine zv_bipush C dX9_readLine_139 rfl ?_
          refine zv_cSi0_4 C dX9_readLine_141 k_X9_four l_X9_58 ⟨Nat.le_of_ble_eq_true rfl, Nat.le_of_ble_eq_true rfl⟩ ⟨rfl, rfl⟩ ⟨Nat.le_of_ble_eq_true rfl, Nat.le_of_ble_eq_true rfl⟩ rfl rfl ?_
          refine s_X9_four (by decide) (by decide) (by decide) (by decide) ?_
          refine zv_cVi0_1 C dX9_readLine_144 k_X9_isWord l_X9_127 hL.1 rfl ⟨Nat.le_of_ble_eq_true rfl, Nat.le_of_ble_eq_true rfl⟩ ⟨rfl, rfl⟩ ⟨Nat.le_of_ble_eq_true rfl, Nat.le_of_ble_eq_true rfl⟩ rfl rfl ?_
          refine s_X9_isWord hL hA 6 (by decide) (by decide) (fun b6 => ?_) (fun b6 => ?_)
          · refine zv_if_eq C 157 dX9_readLine_147 rfl (fun h => absurd h (by omega)) (fun _ => ?_)
            refine zv_aload_n C dX9_readLine_150 rfl rfl ?_
            refine zv_cVi0_0 C dX9_readLine_151 k_X9_readLoss l_X9_161 hL.1 rfl ⟨Nat.le_of_ble_eq_true rfl, Nat.le_of_ble_eq_true rfl⟩ ⟨rfl, rfl⟩ ⟨Nat.le_of_ble_eq_true rfl, Nat.le_of_ble_eq_true rfl⟩ rfl rfl ?_
            refine s_X9_readLoss hL eb hb hn2 hA h2a h2b h4a h4b hLL b6 (fun F1 N1 p1 f1 g1 a1 => ?_) (fun F1 M f pl f1 e8 e9 g1 => ?_)
            · refine zv_goto C 162 dX9_readLine_154 rfl ?_
              refine zv_ireturn C dX9_readLine_162 rfl rfl rfl rfl ?_
              exact hO F1 N1 p1 f1 g1 a1
            · refine zv_goto C 162 dX9_readLine_154 rfl ?_
              refine zv_ireturn C dX9_readLine_162 rfl rfl rfl rfl ?_
              exact hB F1 M f pl f1 e8 e9 g1
          · refine zv_if_eq C 157 dX9_readLine_147 rfl (fun _ => ?_) (fun h => absurd h (by omega))
            refine zv_aload_n C dX9_readLine_157 rfl rfl ?_
            refine zv_iconst C dX9_readLine_158 rfl ?_
            refine zv_cVi0_1 C dX9_readLine_159 k_X9_bad l_X9_110 hL.1 rfl ⟨Nat.le_of_ble_eq_true rfl, Nat.le_of_ble_eq_true rfl⟩ ⟨rfl, rfl⟩ ⟨Nat.le_of_ble_eq_true rfl, Nat.le_of_ble_eq_true rfl⟩ rfl rfl ?_
            refine s_X9_bad hL ?_
            refine zv_ireturn C dX9_readLine_162 rfl rfl rfl rfl ?_
            rw [← zrow_self AI 112]
            refine hB _ _ _ _ ((zFt.rfl.set (by decide)).set (by decide)) rfl rfl ?_
            rw [zsF_ne (by decide), zsF_eq, zsF_eq, hs.2.2.2.2.2]
            exact lF_1 (lNo_2 hLL hno (fun j j0 j1 => by
              rcases (show j = 2 ∨ j = 3 ∨ j = 4 ∨ j = 5 ∨ j = 6 by omega) with e | e | e | e | e <;> subst e <;> assumption)) (by omega) (by split <;> rfl)
