theorem lGood_1 {b : Int → Int} {n p : Int} {N N' : Int → Int} {L p' : Int} (h : lGood b n p N L N' p') (k : zKw b n p 1) : N 2 ≠ 3 ∧ N' 2 = N 2 + 1 := by
  obtain ⟨j, ok, nf, -, rfl, -⟩ := h
  have e := zKw_uni ok.1 (by decide) ok.2.1 k
  subst e
  refine ⟨fun z => nf (Or.inl ⟨rfl, z⟩), ?_⟩
  simp [nLn, zu1]
set_option maxRecDepth 20000 in
theorem s_X9_readHead {T : zTt} {FR : zFR} {AR : zAR} {FI : zFI} {AI : zAI} {Post : zPost} {b : Int → Int} {n : Int} (hL : mLay T FR) (eb : AI 101 = b) (hb : ∀ i : Int, 0 ≤ b i ∧ b i ≤ 255) (hn2 : n ≤ 640) (hA : tAt FI b n 0) (hn0 : 0 ≤ n) (hz : ∀ j : Int, 0 ≤ j → j < 1395 → AI 112 j = 0) (hO : ∀ (FI1 : zFI) (N : Int → Int) (L : Nat) (p : Int), zFo FI FI1 → tRun b n (AI 112) L N p → (L : Int) = 1 + N 2 → 2 ≤ L → ¬ zKw b n p 1 → tAt FI1 b n p → Post (zI (1 + N 2)) T FR AR FI1 (zrow AI 112 N)) (hB : ∀ (FI1 : zFI) (M N : Int → Int) (L : Nat) (p f pl : Int), zFt FI FI1 → FI1 100 8 = f → FI1 100 9 = pl → tRun b n (AI 112) L N p → lFault b n p N L f pl → Post (zI 0) T FR AR FI1 (zrow AI 112 M)) : zMet M_X9_readHead [zR 100] T FR AR FI AI Post := by
  refine zMet.of [some (zR 100)] rfl rfl rfl (fun G C => ?_)
  have hs := hA.sort
  rw [← zrow_self AI 112]
  generalize hN : AI 112 = N0 at *
  have r0 : tRun b n N0 0 N0 0 := ⟨rfl, rfl⟩
  suffices lp : ∀ (d : Nat) (N : Int → Int) (L : Nat) (p : Int) (F : zFI), N 2 + d = 3 → zFo FI F → tRun b n N0 L N p → (L : Int) = 1 + N 2 → 2 ≤ L → tAt F b n p → zV G 65 [some (zR 100)] [] T FR AR F (zrow AI 112 N) 0 0 from by
    refine zv_aload_n C dX9_readHead_0 rfl rfl ?_
    refine zv_ldc2 (x := 27) C dX9_readHead_1 c_X9_48 rfl ?_
    refine zv_bipush C dX9_readHead_4 rfl ?_
    refine zv_bipush C dX9_readHead_6 rfl ?_
    refine zv_bipush C dX9_readHead_8 rfl ?_
    refine zv_bipush C dX9_readHead_10 rfl ?_
    refine zv_cSi0_4 C dX9_readHead_12 k_X9_four l_X9_58 ⟨Nat.le_of_ble_eq_true rfl, Nat.le_of_ble_eq_true rfl⟩ ⟨rfl, rfl⟩ ⟨Nat.le_of_ble_eq_true rfl, Nat.le_of_ble_eq_true rfl⟩ rfl rfl ?_
    refine s_X9_four (by decide) (by decide) (by decide) (by decide) ?_
    refine zv_lmul C dX9_readHead_15 ⟨by omega, by omega⟩ ?_
    refine zv_ldc2 (x := 25) C dX9_readHead_16 c_X9_174 rfl ?_
    refine zv_ladd C dX9_readHead_19 ⟨by omega, by omega⟩ ?_
    refine zv_cVi0_1 C dX9_readHead_20 k_X9_isWord l_X9_127 hL.1 rfl ⟨Nat.le_of_ble_eq_true rfl, Nat.le_of_ble_eq_true rfl⟩ ⟨rfl, rfl⟩ ⟨Nat.le_of_ble_eq_true rfl, Nat.le_of_ble_eq_true rfl⟩ rfl rfl ?_
    refine s_X9_isWord hL hA 0 (by decide) (by decide) (fun b0 => ?_) (fun b0 => ?_)
    · refine zv_if_ne C 34 dX9_readHead_23 rfl (fun _ => ?_) (fun h => absurd h (by omega))
      refine zv_aload_n C dX9_readHead_34 rfl rfl ?_
      refine zv_cVv0_0 C dX9_readHead_35 k_X9_go l_X9_117 hL.1 rfl ⟨Nat.le_of_ble_eq_true rfl, Nat.le_of_ble_eq_true rfl⟩ ⟨rfl, rfl⟩ ⟨Nat.le_of_ble_eq_true rfl, Nat.le_of_ble_eq_true rfl⟩ rfl rfl ?_
      refine s2_go hL (by rw [zrow_neF (by decide)]; exact eb) hb hn2 hA (by have ht := b0.1; omega) (fun F1 f1 a1 => ?_)
      have ok := lOk_0 (N := N0) b0
      refine zv_aload_n C dX9_readHead_38 rfl rfl ?_
      refine zv_iconst C dX9_readHead_39 rfl ?_
      refine zv_iconst C dX9_readHead_40 rfl ?_
      refine zv_bipush C dX9_readHead_41 rfl ?_
      refine zv_cVi0_3 C dX9_readHead_43 k_X9_told l_X9_147 hL.1 rfl ⟨Nat.le_of_ble_eq_true rfl, Nat.le_of_ble_eq_true rfl⟩ ⟨rfl, rfl⟩ ⟨Nat.le_of_ble_eq_true rfl, Nat.le_of_ble_eq_true rfl⟩ rfl rfl ?_
      refine s_X9_told hL (by rw [zrow_neF (by decide)]; exact eb) hb hn2 a1 (by omega) (by omega) (fun c1 F2 f2 a2 => ?_) (fun c1 F2 f2 y8 y9 => ?_)
      · try rw [zrow_set]
        refine zv_if_eq C 63 dX9_readHead_46 rfl (fun h => absurd h (by omega)) (fun _ => ?_)
        refine zv_aload_n C dX9_readHead_49 rfl rfl ?_
        refine zv_cVi0_0 C dX9_readHead_50 k_X9_readEnd l_X9_143 hL.1 rfl ⟨Nat.le_of_ble_eq_true rfl, Nat.le_of_ble_eq_true rfl⟩ ⟨rfl, rfl⟩ ⟨Nat.le_of_ble_eq_true rfl, Nat.le_of_ble_eq_true rfl⟩ rfl rfl ?_
        refine s_X9_readEnd hL (by rw [zrow_neF (by decide)]; exact eb) hb hn2 a2 (fun c2 F3 f3 a3 => ?_) (fun c2 F3 f3 y8 y9 => ?_)
        · refine zv_if_eq C 63 dX9_readHead_53 rfl (fun h => absurd h (by omega)) (fun _ => ?_)
          refine zv_aload_n C dX9_readHead_56 rfl rfl ?_
          have g1 : lGood b n 0 N0 ((0 : Nat) : Int) (zu1 N0 1 (tV b n (tN b n 0))) (tN b n (tN b n (tN b n 0))) := ⟨0, ok, (show ¬ lFull N0 0 by unfold lFull; omega), ⟨sSt_s sSt_0 c1, c2⟩, rfl, rfl⟩
          have r1 : tRun b n N0 1 (zu1 N0 1 (tV b n (tN b n 0))) (tN b n (tN b n (tN b n 0))) := ⟨N0, 0, r0, g1⟩
          have z2 : zu1 N0 1 (tV b n (tN b n 0)) 2 = 0 := (zu1_ne (by omega)).trans (hz 2 (by omega) (by omega))
          refine zv_cVi0_0 C dX9_readHead_57 k_X9_readOffice l_X9_176 hL.1 rfl ⟨Nat.le_of_ble_eq_true rfl, Nat.le_of_ble_eq_true rfl⟩ ⟨rfl, rfl⟩ ⟨Nat.le_of_ble_eq_true rfl, Nat.le_of_ble_eq_true rfl⟩ rfl rfl ?_
          refine s_X9_readOffice (L := 1) hL (by rw [zrow_neF (by decide)]; exact eb) hb hn2 a3 (by rw [zrow_eq, z2]; omega) (by rw [zrow_eq, z2]; omega) (by rw [zrow_eq, z2]; omega) (Or.inr rfl) (fun F4 N4 p4 f4 g4 a4 => ?_) (fun F4 M f pl f4 e8 e9 g4 => ?_)
          · rw [zrow_eqF] at g4
            rw [zrow_zrow]
            refine zv_if_ne C 65 dX9_readHead_60 rfl (fun _ => ?_) (fun h => absurd h (by omega))
            have r4 : tRun b n N0 2 N4 p4 := ⟨_, _, r1, g4⟩
            have e4 : N4 2 = 1 := by
              obtain ⟨j, jk, -, -, e, -⟩ := g4
              have j1 : j = 1 := by
                obtain ⟨j1, j2, j3⟩ := jk
                by_cases c0 : j = 0
                · rw [if_pos c0] at j3; omega
                · rw [if_neg c0] at j3
                  by_cases c1 : j = 1
                  · exact c1
                  · rw [if_neg c1] at j3; omega
              subst j1
              rw [e]
              have e9 : ∀ (K : Int → Int) (V : Nat → Int), nLn 1 K V 2 = K 2 + 1 := fun K V => by simp [nLn, zu1]
              rw [e9, z2]
              omega
            exact lp 2 N4 2 p4 F4 (by omega) (((f1.o.trans f2).trans f3).trans f4) r4 (by omega) (by omega) a4
          · rw [zrow_eqF] at g4
            rw [zrow_zrow]
            refine zv_if_ne C 65 dX9_readHead_60 rfl (fun h => absurd h (by omega)) (fun _ => ?_)
            refine zv_iconst C dX9_readHead_63 rfl ?_
            refine zv_ireturn C dX9_readHead_64 rfl rfl rfl rfl ?_
            first
            | exact hB _ _ _ _ _ _ _ (((f1.o.trans f2).trans f3).t.trans f4) e8 e9 r1 g4
            | exact hB _ _ _ _ _ _ _ ((f1.o.trans f2).t.trans f3) rfl rfl r0 (lF_s ok (show ¬ lFull N0 0 by unfold lFull; omega) (Or.inr ⟨sSt_s sSt_0 c1, c2, y8, y9⟩))
            | exact hB _ _ _ _ _ _ _ (f1.o.t.trans f2) rfl rfl r0 (lF_s ok (show ¬ lFull N0 0 by unfold lFull; omega) (sBd_n 0 (by decide) sSt_0 c1 y8 y9))
        · refine zv_if_eq C 63 dX9_readHead_53 rfl (fun _ => ?_) (fun h => absurd h (by omega))
          refine zv_iconst C dX9_readHead_63 rfl ?_
          refine zv_ireturn C dX9_readHead_64 rfl rfl rfl rfl ?_
          first
          | exact hB _ _ _ _ _ _ _ (((f1.o.trans f2).trans f3).t.trans f4) e8 e9 r1 g4
          | exact hB _ _ _ _ _ _ _ ((f1.o.trans f2).t.trans f3) rfl rfl r0 (lF_s ok (show ¬ lFull N0 0 by unfold lFull; omega) (Or.inr ⟨sSt_s sSt_0 c1, c2, y8, y9⟩))
          | exact hB _ _ _ _ _ _ _ (f1.o.t.trans f2) rfl rfl r0 (lF_s ok (show ¬ lFull N0 0 by unfold lFull; omega) (sBd_n 0 (by decide) sSt_0 c1 y8 y9))
      · try rw [zrow_set]
        refine zv_if_eq C 63 dX9_readHead_46 rfl (fun _ => ?_) (fun h => absurd h (by omega))
        refine zv_iconst C dX9_readHead_63 rfl ?_
        refine zv_ireturn C dX9_readHead_64 rfl rfl rfl rfl ?_
        first
        | exact hB _ _ _ _ _ _ _ (((f1.o.trans f2).trans f3).t.trans f4) e8 e9 r1 g4
        | exact hB _ _ _ _ _ _ _ ((f1.o.trans f2).t.trans f3) rfl rfl r0 (lF_s ok (show ¬ lFull N0 0 by unfold lFull; omega) (Or.inr ⟨sSt_s sSt_0 c1, c2, y8, y9⟩))
        | exact hB _ _ _ _ _ _ _ (f1.o.t.trans f2) rfl rfl r0 (lF_s ok (show ¬ lFull N0 0 by unfold lFull; omega) (sBd_n 0 (by decide) sSt_0 c1 y8 y9))
    · refine zv_if_ne C 34 dX9_readHead_23 rfl (fun h => absurd h (by omega)) (fun _ => ?_)
      refine zv_aload_n C dX9_readHead_26 rfl rfl ?_
      refine zv_iconst C dX9_readHead_27 rfl ?_
      refine zv_cVi0_1 C dX9_readHead_28 k_X9_bad l_X9_110 hL.1 rfl ⟨Nat.le_of_ble_eq_true rfl, Nat.le_of_ble_eq_true rfl⟩ ⟨rfl, rfl⟩ ⟨Nat.le_of_ble_eq_true rfl, Nat.le_of_ble_eq_true rfl⟩ rfl rfl ?_
      refine s_X9_bad hL ?_
      refine zv_pop C dX9_readHead_31 rfl ?_
      refine zv_iconst C dX9_readHead_32 rfl ?_
      refine zv_ireturn C dX9_readHead_33 rfl rfl rfl rfl ?_
      refine hB _ _ _ _ _ _ _ ((zFt.rfl.set (by decide)).set (by decide)) rfl rfl r0 ?_
      rw [zsF_ne (by decide), zsF_eq, zsF_eq, hs.2.2.2.2.2]
      exact lF_1 (lNo_0 b0 (by rw [hz 2 (by omega) (by omega)]; omega)) (by omega) (by split <;> rfl)
  intro d
  induction d with
  | zero =>
    intro N L p F hd hF hr hL1 hL2 hA2
    have m := (tRun_inv hn0 hz L N p hr).1.2.2.1
    refine zv_aload_n C dX9_readHead_65 rfl rfl ?_
    refine zv_cVi0_0 C dX9_readHead_66 k_X9_isOfficeWord l_X9_131 hL.1 rfl ⟨Nat.le_of_ble_eq_true rfl, Nat.le_of_ble_eq_true rfl⟩ ⟨rfl, rfl⟩ ⟨Nat.le_of_ble_eq_true rfl, Nat.le_of_ble_eq_true rfl⟩ rfl rfl ?_
    refine s_X9_isOfficeWord hL hA2 (fun bo => ?_) (fun bo => ?_)
    · refine zv_if_eq C 81 dX9_readHead_69 rfl (fun h => absurd h (by omega)) (fun _ => ?_)
      refine zv_aload_n C dX9_readHead_72 rfl rfl ?_
      refine zv_cVi0_0 C dX9_readHead_73 k_X9_readOffice l_X9_176 hL.1 rfl ⟨Nat.le_of_ble_eq_true rfl, Nat.le_of_ble_eq_true rfl⟩ ⟨rfl, rfl⟩ ⟨Nat.le_of_ble_eq_true rfl, Nat.le_of_ble_eq_true rfl⟩ rfl rfl ?_
      refine s_X9_readOffice (L := (L : Int)) hL (by rw [zrow_neF (by decide)]; exact eb) hb hn2 hA2 (by rw [zrow_eq]; omega) (by rw [zrow_eq]; omega) (by rw [zrow_eq]; omega) (Or.inl bo) (fun F4 N4 p4 f4 g4 a4 => ?_) (fun F4 M f pl f4 e8 e9 g4 => ?_)
      · rw [zrow_eqF] at g4
        rw [zrow_zrow]
        refine zv_if_ne C 65 dX9_readHead_76 rfl (fun _ => ?_) (fun h => absurd h (by omega))
        exact absurd (lGood_1 g4 bo).1 (by omega)
      · rw [zrow_eqF] at g4
        rw [zrow_zrow]
        refine zv_if_ne C 65 dX9_readHead_76 rfl (fun h => absurd h (by omega)) (fun _ => ?_)
        refine zv_iconst C dX9_readHead_79 rfl ?_
        refine zv_ireturn C dX9_readHead_80 rfl rfl rfl rfl ?_
        exact hB _ _ _ _ _ _ _ (hF.t.trans f4) e8 e9 hr g4
    · refine zv_if_eq C 81 dX9_readHead_69 rfl (fun _ => ?_) (fun h => absurd h (by omega))
      refine zv_iconst C dX9_readHead_81 rfl ?_
      refine zv_aload_n C dX9_readHead_82 rfl rfl ?_
      refine zv_getR C dX9_readHead_83 f_X9_77 hL.1 rfl hL.2.2.2.2.2.2.2.2.2.2.2.2.2.2.2.2.1 ?_
      refine zv_iconst C dX9_readHead_86 rfl ?_
      refine zv_iaload C dX9_readHead_87 hL.2.2.2.1 ⟨by omega, by omega⟩ ?_
      rw [zrow_eq]
      refine zv_iadd C dX9_readHead_88 ⟨by omega, by omega⟩ ?_
      refine zv_ireturn C dX9_readHead_89 rfl rfl rfl rfl ?_
      exact hO F N L p hF hr hL1 hL2 bo hA2
  | succ d ih =>
    intro N L p F hd hF hr hL1 hL2 hA2
    have m := (tRun_inv hn0 hz L N p hr).1.2.2.1
    refine zv_aload_n C dX9_readHead_65 rfl rfl ?_
    refine zv_cVi0_0 C dX9_readHead_66 k_X9_isOfficeWord l_X9_131 hL.1 rfl ⟨Nat.le_of_ble_eq_true rfl, Nat.le_of_ble_eq_true rfl⟩ ⟨rfl, rfl⟩ ⟨Nat.le_of_ble_eq_true rfl, Nat.le_of_ble_eq_true rfl⟩ rfl rfl ?_
    refine s_X9_isOfficeWord hL hA2 (fun bo => ?_) (fun bo => ?_)
    · refine zv_if_eq C 81 dX9_readHead_69 rfl (fun h => absurd h (by omega)) (fun _ => ?_)
      refine zv_aload_n C dX9_readHead_72 rfl rfl ?_
      refine zv_cVi0_0 C dX9_readHead_73 k_X9_readOffice l_X9_176 hL.1 rfl ⟨Nat.le_of_ble_eq_true rfl, Nat.le_of_ble_eq_true rfl⟩ ⟨rfl, rfl⟩ ⟨Nat.le_of_ble_eq_true rfl, Nat.le_of_ble_eq_true rfl⟩ rfl rfl ?_
      refine s_X9_readOffice (L := (L : Int)) hL (by rw [zrow_neF (by decide)]; exact eb) hb hn2 hA2 (by rw [zrow_eq]; omega) (by rw [zrow_eq]; omega) (by rw [zrow_eq]; omega) (Or.inl bo) (fun F4 N4 p4 f4 g4 a4 => ?_) (fun F4 M f pl f4 e8 e9 g4 => ?_)
      · rw [zrow_eqF] at g4
        rw [zrow_zrow]
        refine zv_if_ne C 65 dX9_readHead_76 rfl (fun _ => ?_) (fun h => absurd h (by omega))
        have q := lGood_1 g4 bo
        exact ih N4 (L + 1) p4 F4 (by omega) (hF.trans f4) ⟨N, p, hr, g4⟩ (by omega) (by omega) a4
      · rw [zrow_eqF] at g4
        rw [zrow_zrow]
        refine zv_if_ne C 65 dX9_readHead_76 rfl (fun h => absurd h (by omega)) (fun _ => ?_)
        refine zv_iconst C dX9_readHead_79 rfl ?_
        refine zv_ireturn C dX9_readHead_80 rfl rfl rfl rfl ?_
        exact hB _ _ _ _ _ _ _ (hF.t.trans f4) e8 e9 hr g4
    · refine zv_if_eq C 81 dX9_readHead_69 rfl (fun _ => ?_) (fun h => absurd h (by omega))
      refine zv_iconst C dX9_readHead_81 rfl ?_
      refine zv_aload_n C dX9_readHead_82 rfl rfl ?_
      refine zv_getR C dX9_readHead_83 f_X9_77 hL.1 rfl hL.2.2.2.2.2.2.2.2.2.2.2.2.2.2.2.2.1 ?_
      refine zv_iconst C dX9_readHead_86 rfl ?_
      refine zv_iaload C dX9_readHead_87 hL.2.2.2.1 ⟨by omega, by omega⟩ ?_
      rw [zrow_eq]
      refine zv_iadd C dX9_readHead_88 ⟨by omega, by omega⟩ ?_
      refine zv_ireturn C dX9_readHead_89 rfl rfl rfl rfl ?_
      exact hO F N L p hF hr hL1 hL2 bo hA2

set_option maxRecDepth 20000 in
theorem s_X9_text {T : zTt} {FR : zFR} {AR : zAR} {FI : zFI} {AI : zAI} {Post : zPost}  (hL : mLay T FR) (hn0 : 0 ≤ FI 100 2) (hn2 : FI 100 2 ≤ 640) (hb : ∀ i : Int, 0 ≤ AI 101 i ∧ AI 101 i ≤ 255) (hO : ∀ (FI1 : zFI) (N : Int → Int) (L : Nat) (p : Int), tRun (AI 101) (FI 100 2) (zfl (AI 112) 0 1395 0) L N p → 2 ≤ L → tK (AI 101) (FI 100 2) p = 1 → zFx FI FI1 → FI1 100 8 = 0 → FI1 100 14 = 0 → Post (zI (L : Int)) T FR AR FI1 (zmap (zrow AI 112 N) 111 0 1395 N)) (hB : ∀ (FI1 : zFI) (M N : Int → Int) (L : Nat) (p f pl : Int), tRun (AI 101) (FI 100 2) (zfl (AI 112) 0 1395 0) L N p → lFault (AI 101) (FI 100 2) p N L f pl → zFx FI FI1 → FI1 100 8 = f → FI1 100 14 = FI 100 14 → Post (zI (-1 - pl)) T FR AR FI1 (zrow AI 112 M)) : zMet M_X9_text [zR 100] T FR AR FI AI Post := by
  refine zMet.of [some (zR 100), none, none] rfl rfl rfl (fun G C => ?_)
  have hx0 : ∀ F : zFI, zFt (zsF (zsF (zsF (zsF (zsF FI 100 0 0) 100 3 (FI 100 2)) 100 2 0) 100 8 0) 100 4 0) F → zFx FI F := fun F h => by
    refine ⟨fun o j a => ?_, ?_, ?_⟩
    · rw [h o j (Or.inl a)]; simp (disch := omega) only [zsF_ne]
    · rw [h 100 0 (by decide)]; simp (disch := omega) only [zsF_eq, zsF_ne]
    · rw [h 100 2 (by decide)]; simp (disch := omega) only [zsF_eq, zsF_ne]
  generalize hFI0 : zsF (zsF (zsF (zsF (zsF FI 100 0 0) 100 3 (FI 100 2)) 100 2 0) 100 8 0) 100 4 0 = FI0 at *
  have i3 : FI0 100 3 = FI 100 2 := by rw [← hFI0]; simp (disch := omega) only [zsF_eq, zsF_ne]
  have i4 : FI0 100 4 = 0 := by rw [← hFI0, zsF_eq]
  have i8 : FI0 100 8 = 0 := by rw [← hFI0]; simp (disch := omega) only [zsF_eq, zsF_ne]
  have hz : ∀ j : Int, 0 ≤ j → j < 1395 → (zfl (AI 112) 0 1395 0) j = 0 := fun j a c => if_pos ⟨a, c⟩
  generalize hN0 : (zfl (AI 112) 0 1395 0) = N0 at *
  suffices J59 : ∀ (d : Nat) (N : Int → Int) (L : Nat) (p : Int) (F : zFI), (FI 100 2 - p).toNat < d → zFo FI0 F → tRun (AI 101) (FI 100 2) N0 L N p → 2 ≤ L → ¬ (zKw (AI 101) (FI 100 2) p 1 ∧ (L : Int) = 1 + N 2) → tAt F (AI 101) (FI 100 2) p → zV G 59 [some (zR 100), some (zI (L : Int)), none] [] T FR AR F (zrow AI 112 N) 0 0 from by
    suffices lp0 : ∀ (d : Nat) (k : Int), k + d = 1395 → 0 ≤ k → zV G 30 [some (zR 100), some (zI k), none] [] T FR AR FI0 (zfill AI 112 0 k 0) 0 0 from by
      refine zv_aload_n C dX9_text_0 rfl rfl ?_
      refine zv_iconst C dX9_text_1 rfl ?_
      refine zv_putI C dX9_text_2 f_X9_1 hL.1 rfl ?_
      refine zv_aload_n C dX9_text_5 rfl rfl ?_
      refine zv_aload_n C dX9_text_6 rfl rfl ?_
      refine zv_getI C dX9_text_7 f_X9_11 hL.1 rfl ?_
      try simp (disch := omega) only [zsF_eq, zsF_ne]
      refine zv_putI C dX9_text_10 f_X9_18 hL.1 rfl ?_
      refine zv_aload_n C dX9_text_13 rfl rfl ?_
      refine zv_iconst C dX9_text_14 rfl ?_
      refine zv_putI C dX9_text_15 f_X9_11 hL.1 rfl ?_
      refine zv_aload_n C dX9_text_18 rfl rfl ?_
      refine zv_iconst C dX9_text_19 rfl ?_
      refine zv_putI C dX9_text_20 f_X9_62 hL.1 rfl ?_
      refine zv_aload_n C dX9_text_23 rfl rfl ?_
      refine zv_iconst C dX9_text_24 rfl ?_
      refine zv_putI C dX9_text_25 f_X9_21 hL.1 rfl ?_
      refine zv_iconst C dX9_text_28 rfl ?_
      refine zv_istore_1 C dX9_text_29 rfl rfl ?_
      have q := lp0 1395 0 (by omega) (by omega)
      rw [zfill_0] at q
      rw [hFI0]
      exact q
    intro d
    induction d with
    | zero =>
      intro k hk hk0
      have ek : k = 1395 := by omega
      subst ek
      refine zv_iload_n C dX9_text_30 rfl ?_
      refine zv_sipush C dX9_text_31 rfl ?_
      refine zv_icmp_ge C 50 dX9_text_34 rfl (fun h34 => ?_) (fun h34 => absurd h34 (by omega))
      refine zv_aload_n C dX9_text_50 rfl rfl ?_
      rw [zfill_row, hN0]
      refine zv_cVv0_0 C dX9_text_51 k_X9_go l_X9_117 hL.1 rfl ⟨Nat.le_of_ble_eq_true rfl, Nat.le_of_ble_eq_true rfl⟩ ⟨rfl, rfl⟩ ⟨Nat.le_of_ble_eq_true rfl, Nat.le_of_ble_eq_true rfl⟩ rfl rfl ?_
      refine s_X9_go hL i3 hn2 (by omega) (by omega) (by rw [zrow_neF (by decide)]; exact hb) (fun F1 f1 a1 => ?_)
      rw [zrow_neF (by decide), i4] at a1
      refine zv_aload_n C dX9_text_54 rfl rfl ?_
      refine zv_cVi0_0 C dX9_text_55 k_X9_readHead l_X9_164 hL.1 rfl ⟨Nat.le_of_ble_eq_true rfl, Nat.le_of_ble_eq_true rfl⟩ ⟨rfl, rfl⟩ ⟨Nat.le_of_ble_eq_true rfl, Nat.le_of_ble_eq_true rfl⟩ rfl rfl ?_
      refine s_X9_readHead hL (by rw [zrow_neF (by decide)]) hb hn2 a1 hn0 (by rw [zrow_eqF]; exact hz) (fun F2 N L p f2 r2 l2 l3 k2 a2 => ?_) (fun F2 M N L p f pl f2 e8 e9 r2 g2 => ?_)
      · rw [← l2, zrow_zrow]
        refine zv_istore_1 C dX9_text_58 rfl rfl ?_
        exact J59 ((FI 100 2 - p).toNat + 1) N L p F2 (by omega) (f1.o.trans f2) (by rw [zrow_eqF] at r2; exact r2) l3 (fun z => k2 z.1) a2
      · rw [zrow_eqF] at r2
        obtain ⟨m, lp_, pn⟩ := tRun_inv hn0 hz L N p r2
        rw [zrow_zrow]
        refine zv_istore_1 C dX9_text_58 rfl rfl ?_
        refine zv_iload_n C dX9_text_59 rfl ?_
        refine zv_if_le C 88 dX9_text_60 rfl (fun _ => ?_) (fun h => absurd h (by omega))
        refine zv_iload_n C dX9_text_88 rfl ?_
        refine zv_if_ne C 99 dX9_text_89 rfl (fun h => absurd h (by omega)) (fun _ => ?_)
        refine zv_iconst C dX9_text_92 rfl ?_
        refine zv_aload_n C dX9_text_93 rfl rfl ?_
        refine zv_getI C dX9_text_94 f_X9_65 hL.1 rfl ?_
        rw [e9]
        have bl := lFault_b (by omega) (by omega) hn2 g2
        refine zv_isub C dX9_text_97 ⟨by omega, by omega⟩ ?_
        refine zv_ireturn C dX9_text_98 rfl rfl rfl rfl ?_
        exact hB _ _ _ _ _ _ _ r2 g2 (hx0 _ (f1.o.t.trans f2)) e8 (((f1.o.t.trans f2) 100 14 (by decide)).trans (by rw [← hFI0]; simp (disch := omega) only [zsF_eq, zsF_ne]))
    | succ d ih =>
      intro k hk hk0
      have q := ih (k + 1) (by omega) (by omega)
      refine zv_iload_n C dX9_text_30 rfl ?_
      refine zv_sipush C dX9_text_31 rfl ?_
      refine zv_icmp_ge C 50 dX9_text_34 rfl (fun h34 => absurd h34 (by omega)) (fun h34 => ?_)
      refine zv_aload_n C dX9_text_37 rfl rfl ?_
      refine zv_getR C dX9_text_38 f_X9_77 hL.1 rfl hL.2.2.2.2.2.2.2.2.2.2.2.2.2.2.2.2.1 ?_
      refine zv_iload_n C dX9_text_41 rfl ?_
      refine zv_iconst C dX9_text_42 rfl ?_
      refine zv_iastore C dX9_text_43 hL.2.2.2.1 ⟨by omega, by omega⟩ ?_
      rw [zfill_step (by omega)]
      refine zv_iinc_1 C dX9_text_44 rfl rfl ⟨by omega, by omega⟩ ?_
      refine zv_goto C 30 dX9_text_47 rfl ?_
      exact q
  intro d
  induction d with
  | zero =>
    intro N L p F hd hF hr hL2 hno hA
    exact absurd hd (by omega)
  | succ d ih =>
    intro N L p F hd hF hr hL2 hno hA
    have hs := hA.sort
    obtain ⟨m, lp_, pn⟩ := tRun_inv hn0 hz L N p hr
    have m2 := m.2.2.1
    have m3 := m.2.2.2.1
    have m4 := m.2.2.2.2.1
    refine zv_iload_n C dX9_text_59 rfl ?_
    refine zv_if_le C 88 dX9_text_60 rfl (fun h60 => absurd h60 (by omega)) (fun h60 => ?_)
    refine zv_aload_n C dX9_text_63 rfl rfl ?_
    refine zv_getI C dX9_text_64 f_X9_27 hL.1 rfl ?_
    refine zv_if_eq C 88 dX9_text_67 rfl (fun h67 => ?_) (fun h67 => ?_)
    · refine zv_iload_n C dX9_text_88 rfl ?_
      refine zv_if_ne C 99 dX9_text_89 rfl (fun h89 => ?_) (fun h89 => absurd h89 (by omega))
      refine zv_iconst C dX9_text_99 rfl ?_
      refine zv_istore_2 C dX9_text_100 rfl rfl ?_
      suffices lp3 : ∀ (d : Nat) (k : Int), k + d = 1395 → 0 ≤ k → zV G 101 [some (zR 100), some (zI (L : Int)), some (zI k)] [] T FR AR F (zmap (zrow AI 112 N) 111 0 k N) 0 0 from by
        have q := lp3 1395 0 (by omega) (by omega)
        rw [zmap_0] at q
        exact q
      intro d3
      induction d3 with
      | zero =>
        intro k hk hk0
        have ek : k = 1395 := by omega
        subst ek
        refine zv_iload_n C dX9_text_101 rfl ?_
        refine zv_sipush C dX9_text_102 rfl ?_
        refine zv_icmp_ge C 126 dX9_text_105 rfl (fun h105 => ?_) (fun h105 => absurd h105 (by omega))
        refine zv_aload_n C dX9_text_126 rfl rfl ?_
        refine zv_iconst C dX9_text_127 rfl ?_
        refine zv_putI C dX9_text_128 f_X9_171 hL.1 rfl ?_
        refine zv_iload_n C dX9_text_131 rfl ?_
        refine zv_ireturn C dX9_text_132 rfl rfl rfl rfl ?_
        refine hO _ N L p hr (by omega) (by omega) ?_ ?_ ?_
        · have hx := hx0 _ hF.t
          refine ⟨fun o j a => ?_, ?_, ?_⟩
          · rw [zsF_ne (Or.inl a)]; exact hx.1 o j a
          · rw [zsF_ne (by decide)]; exact hx.2.1
          · rw [zsF_ne (by decide)]; exact hx.2.2
        · rw [zsF_ne (by decide), hF 100 8 (by decide), i8]
        · rw [zsF_eq]
      | succ d3 ih3 =>
        intro k hk hk0
        have q := ih3 (k + 1) (by omega) (by omega)
        refine zv_iload_n C dX9_text_101 rfl ?_
        refine zv_sipush C dX9_text_102 rfl ?_
        refine zv_icmp_ge C 126 dX9_text_105 rfl (fun h105 => absurd h105 (by omega)) (fun h105 => ?_)
        refine zv_aload_n C dX9_text_108 rfl rfl ?_
        refine zv_getR C dX9_text_109 f_X9_74 hL.1 rfl hL.2.2.2.2.2.2.2.2.2.2.2.2.2.2.2.1 ?_
        refine zv_iload_n C dX9_text_112 rfl ?_
        refine zv_aload_n C dX9_text_113 rfl rfl ?_
        refine zv_getR C dX9_text_114 f_X9_77 hL.1 rfl hL.2.2.2.2.2.2.2.2.2.2.2.2.2.2.2.2.1 ?_
        refine zv_iload_n C dX9_text_117 rfl ?_
        refine zv_iaload C dX9_text_118 hL.2.2.2.1 ⟨by omega, by omega⟩ ?_
        rw [zmap_ne (by decide), zrow_eq]
        refine zv_iastore C dX9_text_119 hL.2.2.1 ⟨by omega, by omega⟩ ?_
        rw [zmap_step (by omega) rfl]
        refine zv_iinc_2 C dX9_text_120 rfl rfl ⟨by omega, by omega⟩ ?_
        refine zv_goto C 101 dX9_text_123 rfl ?_
        exact q
    · refine zv_aload_n C dX9_text_70 rfl rfl ?_
      refine zv_cVi0_0 C dX9_text_71 k_X9_readLine l_X9_168 hL.1 rfl ⟨Nat.le_of_ble_eq_true rfl, Nat.le_of_ble_eq_true rfl⟩ ⟨rfl, rfl⟩ ⟨Nat.le_of_ble_eq_true rfl, Nat.le_of_ble_eq_true rfl⟩ rfl rfl ?_
      refine s_X9_readLine (L := (L : Int)) hL (by rw [zrow_neF (by decide)]) hb hn2 hA (by rw [zrow_eq]; omega) (by rw [zrow_eq]; omega) (by rw [zrow_eq]; omega) (by rw [zrow_eq]; omega) (by rw [zrow_eq]; omega) (by rw [zrow_eq]; omega) (by omega) (by rw [zrow_eq]; exact hno) (by omega) (fun F4 N4 p4 f4 g4 a4 => ?_) (fun F4 M f pl f4 e8 e9 g4 => ?_)
      · rw [zrow_eqF] at g4
        rw [zrow_zrow]
        refine zv_if_eq C 83 dX9_text_74 rfl (fun h => absurd h (by omega)) (fun _ => ?_)
        refine zv_iload_n C dX9_text_77 rfl ?_
        refine zv_iconst C dX9_text_78 rfl ?_
        refine zv_iadd C dX9_text_79 ⟨by omega, by omega⟩ ?_
        refine zv_goto C 84 dX9_text_80 rfl ?_
        refine zv_istore_1 C dX9_text_84 rfl rfl ?_
        refine zv_goto C 59 dX9_text_85 rfl ?_
        have gp := lGood_p g4
        have g2 := lGood_2 m g4 (by omega) hno
        rw [show (L : Int) + 1 = ((L + 1 : Nat) : Int) by omega]
        exact ih N4 (L + 1) p4 F4 (by omega) (hF.trans f4) ⟨N, p, hr, g4⟩ (by omega) (fun z => by have z2 := z.2; rcases m.2.2.2.2.2.2.2.2.2 with ⟨y1, y2⟩ | ⟨y1, y2, y3⟩ <;> omega) a4
      · rw [zrow_eqF] at g4
        rw [zrow_zrow]
        refine zv_if_eq C 83 dX9_text_74 rfl (fun _ => ?_) (fun h => absurd h (by omega))
        refine zv_iconst C dX9_text_83 rfl ?_
        refine zv_istore_1 C dX9_text_84 rfl rfl ?_
        refine zv_goto C 59 dX9_text_85 rfl ?_
        refine zv_iload_n C dX9_text_59 rfl ?_
        refine zv_if_le C 88 dX9_text_60 rfl (fun _ => ?_) (fun h => absurd h (by omega))
        refine zv_iload_n C dX9_text_88 rfl ?_
        refine zv_if_ne C 99 dX9_text_89 rfl (fun h => absurd h (by omega)) (fun _ => ?_)
        refine zv_iconst C dX9_text_92 rfl ?_
        refine zv_aload_n C dX9_text_93 rfl rfl ?_
        refine zv_getI C dX9_text_94 f_X9_65 hL.1 rfl ?_
        rw [e9]
        have bl := lFault_b (by omega) (by omega) hn2 g4
        refine zv_isub C dX9_text_97 ⟨by omega, by omega⟩ ?_
        refine zv_ireturn C dX9_text_98 rfl rfl rfl rfl ?_
        exact hB _ _ _ _ _ _ _ hr g4 (hx0 _ (hF.t.trans f4)) e8 (((hF.t.trans f4) 100 14 (by decide)).trans (by rw [← hFI0]; simp (disch := omega) only [zsF_eq, zsF_ne]))

