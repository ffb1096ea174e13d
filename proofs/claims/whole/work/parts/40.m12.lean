theorem s2_liability {T : zTt} {FR : zFR} {AR : zAR} {FI : zFI} {AI : zAI} {Post : zPost} {A0 : zAI} {N : Int → Int} {o yr more : Int} {nI nL s : Nat} (hL : mLay T FR) (eN : A0 111 = N) (hW : mW N nI nL) (hI : zSwI A0 AI (mDed N nI o) (mCov N nI o yr more) (mTax N nI o) (N 1) (mP0 N nL o) (N 0 + 1) s) (hs : N 0 + 1 + s = 40) (g0 : 0 ≤ o) (g1 : o < 3) (g2 : 0 ≤ more) (g3 : more ≤ 99999) (hp : Post (zI (mLi N nI o)) T FR AR FI AI) : zMet M_X9_liability [zR 100, zI o] T FR AR FI AI Post := by
  subst eN
  exact s_X9_liability hL hW hI hs g0 g1 g2 g3 hp
theorem s2_asset {T : zTt} {FR : zFR} {AR : zAR} {FI : zFI} {AI : zAI} {Post : zPost} {A0 : zAI} {N : Int → Int} {o yr more : Int} {nI nL s : Nat} (hL : mLay T FR) (eN : A0 111 = N) (hW : mW N nI nL) (hI : zSwI A0 AI (mDed N nI o) (mCov N nI o yr more) (mTax N nI o) (N 1) (mP0 N nL o) (N 0 + 1) s) (hs : N 0 + 1 + s = 40) (g0 : 0 ≤ o) (g1 : o < 3) (g2 : 0 ≤ more) (g3 : more ≤ 99999) (hp : Post (zI (mAs N nI nL o yr more)) T FR AR FI AI) : zMet M_X9_asset [zR 100, zI o] T FR AR FI AI Post := by
  subst eN
  exact s_X9_asset hL hW hI hs g0 g1 g2 g3 hp
theorem s2_unrecognised {T : zTt} {FR : zFR} {AR : zAR} {FI : zFI} {AI : zAI} {Post : zPost} {A0 : zAI} {N : Int → Int} {o yr more : Int} {nI nL s : Nat} (hL : mLay T FR) (eN : A0 111 = N) (hW : mW N nI nL) (hI : zSwI A0 AI (mDed N nI o) (mCov N nI o yr more) (mTax N nI o) (N 1) (mP0 N nL o) (N 0 + 1) s) (hs : N 0 + 1 + s = 40) (g0 : 0 ≤ o) (g1 : o < 3) (g2 : 0 ≤ more) (g3 : more ≤ 99999) (hp : Post (zI (mUn N nI nL o yr more)) T FR AR FI AI) : zMet M_X9_unrecognised [zR 100, zI o] T FR AR FI AI Post := by
  subst eN
  exact s_X9_unrecognised hL hW hI hs g0 g1 g2 g3 hp
set_option maxRecDepth 20000 in
theorem s_X9_closes {T : zTt} {FR : zFR} {AR : zAR} {FI : zFI} {AI : zAI} {Post : zPost} {o : Int} {nI nL : Nat}  (hL : mLay T FR) (hW : mW (AI 111) nI nL) (hC : mCl (AI 111)) (hCb : mCb (AI 111)) (g0 : 0 ≤ o) (g1 : o < 3) (hp : ∀ A1 : zAI, zFr AI A1 → Post (zI 0) T FR AR FI (zrow A1 111 (nCloses (AI 111) nI nL o))) : zMet M_X9_closes [zR 100, zI o] T FR AR FI AI Post := by
  refine zMet.of [some (zR 100), some (zI o), none, none, none, none, none] rfl rfl rfl (fun G C => ?_)
  obtain ⟨w0, w1, w2, w3, w4, w5, w6, w7, w8, w9⟩ := id hW
  have wb := mWas_b hCb g0 g1 w0.1 (by omega)
  have bb := mByR_b hW hC g0 g1
  have lb := mLi_b hW g0 g1
  have ab := mAs_b hW (yr := -1) (more := 0) g0 g1 (by omega) (by omega)
  have ub := mUn_b hW (yr := -1) (more := 0) g0 g1 (by omega) (by omega)
  suffices J127 : ∀ a6 : Option zVal, zV G 127 [some (zR 100), some (zI o), some (zI (AI 111 0)), some (zI (435 + 240 * o + 6 * AI 111 0)), some (zI (mWas (AI 111) o)), some (zI (mByR (AI 111) o)), a6] [] T FR AR FI AI 0 0 from by
    suffices J46 : zV G 46 [some (zR 100), some (zI o), some (zI (AI 111 0)), some (zI (435 + 240 * o + 6 * AI 111 0)), some (zI (mWas (AI 111) o)), none, none] [] T FR AR FI AI 0 0 from by
      refine zv_aload_n C dX9_closes_0 rfl rfl ?_
      refine zv_getR C dX9_closes_1 f_X9_74 hL.1 rfl hL.2.2.2.2.2.2.2.2.2.2.2.2.2.2.2.1 ?_
      refine zv_iconst C dX9_closes_4 rfl ?_
      refine zv_iaload C dX9_closes_5 hL.2.2.1 ⟨by omega, by omega⟩ ?_
      refine zv_istore_2 C dX9_closes_6 rfl rfl ?_
      refine zv_iload_n C dX9_closes_7 rfl ?_
      refine zv_iload_n C dX9_closes_8 rfl ?_
      refine zv_cSi0_2 C dX9_closes_9 k_X9_closingAt l_X9_257 ⟨Nat.le_of_ble_eq_true rfl, Nat.le_of_ble_eq_true rfl⟩ ⟨rfl, rfl⟩ ⟨Nat.le_of_ble_eq_true rfl, Nat.le_of_ble_eq_true rfl⟩ rfl rfl ?_
      refine s_X9_closingAt g0 g1 (by omega) (by omega) ?_
      refine zv_istore_3 C dX9_closes_12 rfl rfl ?_
      refine zv_iload_n C dX9_closes_13 rfl ?_
      refine zv_if_ne C 21 dX9_closes_14 rfl (fun h14 => ?_) (fun h14 => ?_)
      · refine zv_aload_n C dX9_closes_21 rfl rfl ?_
        refine zv_getR C dX9_closes_22 f_X9_74 hL.1 rfl hL.2.2.2.2.2.2.2.2.2.2.2.2.2.2.2.1 ?_
        refine zv_iload_n C dX9_closes_25 rfl ?_
        refine zv_bipush C dX9_closes_26 rfl ?_
        refine zv_isub C dX9_closes_28 ⟨by omega, by omega⟩ ?_
        refine zv_iconst C dX9_closes_29 rfl ?_
        refine zv_iadd C dX9_closes_30 ⟨by omega, by omega⟩ ?_
        refine zv_iaload C dX9_closes_31 hL.2.2.1 ⟨by omega, by omega⟩ ?_
        refine zv_aload_n C dX9_closes_32 rfl rfl ?_
        refine zv_getR C dX9_closes_33 f_X9_74 hL.1 rfl hL.2.2.2.2.2.2.2.2.2.2.2.2.2.2.2.1 ?_
        refine zv_iload_n C dX9_closes_36 rfl ?_
        refine zv_bipush C dX9_closes_37 rfl ?_
        refine zv_isub C dX9_closes_39 ⟨by omega, by omega⟩ ?_
        refine zv_iconst C dX9_closes_40 rfl ?_
        refine zv_iadd C dX9_closes_41 ⟨by omega, by omega⟩ ?_
        refine zv_iaload C dX9_closes_42 hL.2.2.1 ⟨by omega, by omega⟩ ?_
        have q := hCb o (AI 111 0 - 1) g0 g1 (by omega) (by omega)
        rw [show 435 + 240 * o + 6 * (AI 111 0 - 1) + 0 = 435 + 240 * o + 6 * AI 111 0 - 6 + 0 by omega, show 435 + 240 * o + 6 * (AI 111 0 - 1) + 1 = 435 + 240 * o + 6 * AI 111 0 - 6 + 1 by omega] at q
        refine zv_isub C dX9_closes_43 ⟨by omega, by omega⟩ ?_
        refine zv_istore_4 C dX9_closes_44 rfl rfl ?_
        unfold mWas at J46
        first | (rw [if_pos (by omega)] at J46; exact J46) | (rw [if_neg (by omega)] at J46; exact J46)
      · refine zv_iconst C dX9_closes_17 rfl ?_
        refine zv_goto C 44 dX9_closes_18 rfl ?_
        refine zv_istore_4 C dX9_closes_44 rfl rfl ?_
        unfold mWas at J46
        first | (rw [if_pos (by omega)] at J46; exact J46) | (rw [if_neg (by omega)] at J46; exact J46)
    by_cases cy : AI 111 0 = 0
    · have e : mByR (AI 111) o = 0 := if_pos cy
      rw [e] at J127
      refine zv_iconst C dX9_closes_46 rfl ?_
      refine zv_istore_5 C dX9_closes_47 rfl rfl ?_
      refine zv_iload_n C dX9_closes_49 rfl ?_
      refine zv_istore_6 C dX9_closes_50 rfl rfl ?_
      refine zv_iload C dX9_closes_52 rfl ?_
      refine zv_bipush C dX9_closes_54 rfl ?_
      refine zv_icmp_ge C 127 dX9_closes_56 rfl (fun h56 => absurd h56 (by omega)) (fun h56 => ?_)
      refine zv_iload_n C dX9_closes_59 rfl ?_
      refine zv_if_le C 127 dX9_closes_60 rfl (fun h60 => ?_) (fun h60 => absurd h60 (by omega))
      exact J127 _
    · suffices lp : ∀ d j : Nat, (j : Int) + d = 40 - AI 111 0 → zV G 52 [some (zR 100), some (zI o), some (zI (AI 111 0)), some (zI (435 + 240 * o + 6 * AI 111 0)), some (zI (mWas (AI 111) o)), some (zI (zS (mByT (AI 111) o) j)), some (zI (AI 111 0 + j))] [] T FR AR FI AI 0 0 from by
        refine zv_iconst C dX9_closes_46 rfl ?_
        refine zv_istore_5 C dX9_closes_47 rfl rfl ?_
        refine zv_iload_n C dX9_closes_49 rfl ?_
        refine zv_istore_6 C dX9_closes_50 rfl rfl ?_
        have q := lp (40 - AI 111 0).toNat 0 (by omega)
        rw [show AI 111 0 + ((0 : Nat) : Int) = AI 111 0 by omega] at q
        exact q
      intro d
      induction d with
      | zero =>
        intro j hj
        refine zv_iload C dX9_closes_52 rfl ?_
        refine zv_bipush C dX9_closes_54 rfl ?_
        refine zv_icmp_ge C 127 dX9_closes_56 rfl (fun h56 => ?_) (fun h56 => absurd h56 (by omega))
        have e : mByR (AI 111) o = zS (mByT (AI 111) o) (40 - AI 111 0).toNat := if_neg cy
        rw [show (40 - AI 111 0).toNat = j by omega] at e
        rw [e] at J127
        exact J127 _
      | succ d ih =>
        intro j hj
        have q := ih (j + 1) (by omega)
        obtain ⟨t1, t2, t3, t4, t5, t6⟩ := mByT_b hW hC g0 g1 (i := (j : Int)) (by omega) (by omega)
        have s1 := zS_ub (f := mByT (AI 111) o) (c := 3600000) j (fun i a b => (mByT_b hW hC g0 g1 a (by omega)).1.2)
        have s2 := zS_lb (f := mByT (AI 111) o) (c := -3600000) j (fun i a b => (mByT_b hW hC g0 g1 a (by omega)).1.1)
        rw [show AI 111 0 + ((j + 1 : Nat) : Int) = AI 111 0 + j + 1 by omega, zS_t (f := mByT (AI 111) o) (j := j) rfl] at q
        unfold mByT at t1
        refine zv_iload C dX9_closes_52 rfl ?_
        refine zv_bipush C dX9_closes_54 rfl ?_
        refine zv_icmp_ge C 127 dX9_closes_56 rfl (fun h56 => absurd h56 (by omega)) (fun h56 => ?_)
        refine zv_iload_n C dX9_closes_59 rfl ?_
        refine zv_if_le C 127 dX9_closes_60 rfl (fun h60 => absurd h60 (by omega)) (fun h60 => ?_)
        refine zv_iload C dX9_closes_63 rfl ?_
        refine zv_aload_n C dX9_closes_65 rfl rfl ?_
        refine zv_getR C dX9_closes_66 f_X9_74 hL.1 rfl hL.2.2.2.2.2.2.2.2.2.2.2.2.2.2.2.1 ?_
        refine zv_sipush C dX9_closes_69 rfl ?_
        refine zv_bipush C dX9_closes_72 rfl ?_
        refine zv_iload_n C dX9_closes_74 rfl ?_
        refine zv_imul C dX9_closes_75 ⟨by omega, by omega⟩ ?_
        refine zv_iadd C dX9_closes_76 ⟨by omega, by omega⟩ ?_
        refine zv_iload C dX9_closes_77 rfl ?_
        refine zv_iadd C dX9_closes_79 ⟨by omega, by omega⟩ ?_
        refine zv_iaload C dX9_closes_80 hL.2.2.1 ⟨by omega, by omega⟩ ?_
        refine zv_aload_n C dX9_closes_81 rfl rfl ?_
        refine zv_iload_n C dX9_closes_82 rfl ?_
        refine zv_iload C dX9_closes_83 rfl ?_
        refine zv_cVi0_2 C dX9_closes_85 k_X9_rateOf l_X9_207 hL.1 rfl ⟨Nat.le_of_ble_eq_true rfl, Nat.le_of_ble_eq_true rfl⟩ ⟨rfl, rfl⟩ ⟨Nat.le_of_ble_eq_true rfl, Nat.le_of_ble_eq_true rfl⟩ rfl rfl ?_
        refine s_X9_rateOf hL g0 g1 (by omega) (by omega) ?_
        refine zv_cSi0_2 C dX9_closes_88 k_X9_taxOn l_X9_210 ⟨Nat.le_of_ble_eq_true rfl, Nat.le_of_ble_eq_true rfl⟩ ⟨rfl, rfl⟩ ⟨Nat.le_of_ble_eq_true rfl, Nat.le_of_ble_eq_true rfl⟩ rfl rfl ?_
        refine s_X9_taxOn (by omega) (by omega) (by omega) (by omega) ?_
        refine zv_aload_n C dX9_closes_91 rfl rfl ?_
        refine zv_getR C dX9_closes_92 f_X9_74 hL.1 rfl hL.2.2.2.2.2.2.2.2.2.2.2.2.2.2.2.1 ?_
        refine zv_sipush C dX9_closes_95 rfl ?_
        refine zv_bipush C dX9_closes_98 rfl ?_
        refine zv_iload_n C dX9_closes_100 rfl ?_
        refine zv_imul C dX9_closes_101 ⟨by omega, by omega⟩ ?_
        refine zv_iadd C dX9_closes_102 ⟨by omega, by omega⟩ ?_
        refine zv_iload C dX9_closes_103 rfl ?_
        refine zv_iadd C dX9_closes_105 ⟨by omega, by omega⟩ ?_
        refine zv_iaload C dX9_closes_106 hL.2.2.1 ⟨by omega, by omega⟩ ?_
        refine zv_aload_n C dX9_closes_107 rfl rfl ?_
        refine zv_iload_n C dX9_closes_108 rfl ?_
        refine zv_iload C dX9_closes_109 rfl ?_
        refine zv_cVi0_2 C dX9_closes_111 k_X9_rateOf l_X9_207 hL.1 rfl ⟨Nat.le_of_ble_eq_true rfl, Nat.le_of_ble_eq_true rfl⟩ ⟨rfl, rfl⟩ ⟨Nat.le_of_ble_eq_true rfl, Nat.le_of_ble_eq_true rfl⟩ rfl rfl ?_
        refine s_X9_rateOf hL g0 g1 (by omega) (by omega) ?_
        refine zv_cSi0_2 C dX9_closes_114 k_X9_taxOn l_X9_210 ⟨Nat.le_of_ble_eq_true rfl, Nat.le_of_ble_eq_true rfl⟩ ⟨rfl, rfl⟩ ⟨Nat.le_of_ble_eq_true rfl, Nat.le_of_ble_eq_true rfl⟩ rfl rfl ?_
        refine s_X9_taxOn (by omega) (by omega) (by omega) (by omega) ?_
        refine zv_isub C dX9_closes_117 ⟨by omega, by omega⟩ ?_
        refine zv_iadd C dX9_closes_118 ⟨by omega, by omega⟩ ?_
        refine zv_istore_5 C dX9_closes_119 rfl rfl ?_
        refine zv_iinc_6 C dX9_closes_121 rfl rfl ⟨by omega, by omega⟩ ?_
        refine zv_goto C 52 dX9_closes_124 rfl ?_
        exact q
  intro a6
  suffices lp : ∀ (A1 : zAI) (s : Nat), AI 111 0 + 1 + s = 40 → zSwI AI A1 (mDed (AI 111) nI o) (mCov (AI 111) nI o (-1) 0) (mTax (AI 111) nI o) (AI 111 1) (mP0 (AI 111) nL o) (AI 111 0 + 1) s → ∀ d j : Nat, j + d = s → zV G 227 [some (zR 100), some (zI o), some (zI (AI 111 0)), some (zI (435 + 240 * o + 6 * AI 111 0)), some (zI (mWas (AI 111) o)), some (zI (mByR (AI 111) o)), some (zI (AI 111 0 + 1 + j))] [] T FR AR FI (zrow A1 111 (nCl2 (AI 111) (nCl1 (AI 111) nI nL o) nI nL o (AI 111 0 + 1 + j))) 0 0 from by
    refine zv_aload_n C dX9_closes_127 rfl rfl ?_
    refine zv_iload_n C dX9_closes_128 rfl ?_
    refine zv_iconst C dX9_closes_129 rfl ?_
    refine zv_iconst C dX9_closes_130 rfl ?_
    refine zv_cVv0_3 C dX9_closes_131 k_X9_sweeps l_X9_219 hL.1 rfl ⟨Nat.le_of_ble_eq_true rfl, Nat.le_of_ble_eq_true rfl⟩ ⟨rfl, rfl⟩ ⟨Nat.le_of_ble_eq_true rfl, Nat.le_of_ble_eq_true rfl⟩ rfl rfl ?_
    refine s_X9_sweeps hL hW g0 g1 (by omega) (by omega) (fun A1 s hs hI => ?_)
    have e111 : A1 111 = AI 111 := hI.1 111 (by decide)
    refine zv_aload_n C dX9_closes_134 rfl rfl ?_
    refine zv_getR C dX9_closes_135 f_X9_74 hL.1 rfl hL.2.2.2.2.2.2.2.2.2.2.2.2.2.2.2.1 ?_
    refine zv_iload_n C dX9_closes_138 rfl ?_
    refine zv_iconst C dX9_closes_139 rfl ?_
    refine zv_iadd C dX9_closes_140 ⟨by omega, by omega⟩ ?_
    refine zv_aload_n C dX9_closes_141 rfl rfl ?_
    refine zv_iload_n C dX9_closes_142 rfl ?_
    refine zv_cVi0_1 C dX9_closes_143 k_X9_liability l_X9_223 hL.1 rfl ⟨Nat.le_of_ble_eq_true rfl, Nat.le_of_ble_eq_true rfl⟩ ⟨rfl, rfl⟩ ⟨Nat.le_of_ble_eq_true rfl, Nat.le_of_ble_eq_true rfl⟩ rfl rfl ?_
    refine s_X9_liability hL hW hI hs g0 g1 (by omega) (by omega) ?_
    refine zv_iastore C dX9_closes_146 hL.2.2.1 ⟨by omega, by omega⟩ ?_
    rw [zsA_row, e111]
    have S1 : zSame (AI 111) (zu1 (AI 111) (435 + 240 * o + 6 * AI 111 0 + 0) (mLi (AI 111) nI o)) := fun j a b => zu1_ne (by omega)
    have q1 := zSw_re hW g0 g1 (by omega) hI S1
    have z1 : (zu1 (AI 111) (435 + 240 * o + 6 * AI 111 0 + 0) (mLi (AI 111) nI o)) 0 = AI 111 0 := S1 0 (by omega) (by omega)
    refine zv_aload_n C dX9_closes_147 rfl rfl ?_
    refine zv_getR C dX9_closes_148 f_X9_74 hL.1 rfl hL.2.2.2.2.2.2.2.2.2.2.2.2.2.2.2.1 ?_
    refine zv_iload_n C dX9_closes_151 rfl ?_
    refine zv_iconst C dX9_closes_152 rfl ?_
    refine zv_iadd C dX9_closes_153 ⟨by omega, by omega⟩ ?_
    refine zv_aload_n C dX9_closes_154 rfl rfl ?_
    refine zv_iload_n C dX9_closes_155 rfl ?_
    refine zv_cVi0_1 C dX9_closes_156 k_X9_asset l_X9_226 hL.1 rfl ⟨Nat.le_of_ble_eq_true rfl, Nat.le_of_ble_eq_true rfl⟩ ⟨rfl, rfl⟩ ⟨Nat.le_of_ble_eq_true rfl, Nat.le_of_ble_eq_true rfl⟩ rfl rfl ?_
    refine s2_asset hL zrow_eqF (mW_c S1 hW) q1 (by rw [z1]; omega) g0 g1 (by omega) (by omega) ?_
    rw [mAs_c S1 hW g0 g1]
    refine zv_iastore C dX9_closes_159 hL.2.2.1 ⟨by omega, by omega⟩ ?_
    rw [zrow_set]
    have S2 : zSame (AI 111) (zu1 (zu1 (AI 111) (435 + 240 * o + 6 * AI 111 0 + 0) (mLi (AI 111) nI o)) (435 + 240 * o + 6 * AI 111 0 + 1) (mAs (AI 111) nI nL o (-1) 0)) := fun j a b => (zu1_ne (by omega)).trans (S1 j a b)
    have q2 := zSw_re hW g0 g1 (by omega) hI S2
    have z2 : (zu1 (zu1 (AI 111) (435 + 240 * o + 6 * AI 111 0 + 0) (mLi (AI 111) nI o)) (435 + 240 * o + 6 * AI 111 0 + 1) (mAs (AI 111) nI nL o (-1) 0)) 0 = AI 111 0 := S2 0 (by omega) (by omega)
    refine zv_aload_n C dX9_closes_160 rfl rfl ?_
    refine zv_getR C dX9_closes_161 f_X9_74 hL.1 rfl hL.2.2.2.2.2.2.2.2.2.2.2.2.2.2.2.1 ?_
    refine zv_iload_n C dX9_closes_164 rfl ?_
    refine zv_iconst C dX9_closes_165 rfl ?_
    refine zv_iadd C dX9_closes_166 ⟨by omega, by omega⟩ ?_
    refine zv_aload_n C dX9_closes_167 rfl rfl ?_
    refine zv_iload_n C dX9_closes_168 rfl ?_
    refine zv_cVi0_1 C dX9_closes_169 k_X9_unrecognised l_X9_229 hL.1 rfl ⟨Nat.le_of_ble_eq_true rfl, Nat.le_of_ble_eq_true rfl⟩ ⟨rfl, rfl⟩ ⟨Nat.le_of_ble_eq_true rfl, Nat.le_of_ble_eq_true rfl⟩ rfl rfl ?_
    refine s2_unrecognised hL zrow_eqF (mW_c S2 hW) q2 (by rw [z2]; omega) g0 g1 (by omega) (by omega) ?_
    rw [mUn_c S2 hW g0 g1]
    refine zv_iastore C dX9_closes_172 hL.2.2.1 ⟨by omega, by omega⟩ ?_
    rw [zrow_set]
    refine zv_aload_n C dX9_closes_173 rfl rfl ?_
    refine zv_getR C dX9_closes_174 f_X9_74 hL.1 rfl hL.2.2.2.2.2.2.2.2.2.2.2.2.2.2.2.1 ?_
    refine zv_iload_n C dX9_closes_177 rfl ?_
    refine zv_iconst C dX9_closes_178 rfl ?_
    refine zv_iadd C dX9_closes_179 ⟨by omega, by omega⟩ ?_
    refine zv_aload_n C dX9_closes_180 rfl rfl ?_
    refine zv_getR C dX9_closes_181 f_X9_74 hL.1 rfl hL.2.2.2.2.2.2.2.2.2.2.2.2.2.2.2.1 ?_
    refine zv_iload_n C dX9_closes_184 rfl ?_
    refine zv_iconst C dX9_closes_185 rfl ?_
    refine zv_iadd C dX9_closes_186 ⟨by omega, by omega⟩ ?_
    refine zv_iaload C dX9_closes_187 hL.2.2.1 ⟨by omega, by omega⟩ ?_
    simp (disch := omega) only [zrow_eq, zu1_ne, zu1_eq]
    refine zv_aload_n C dX9_closes_188 rfl rfl ?_
    refine zv_getR C dX9_closes_189 f_X9_74 hL.1 rfl hL.2.2.2.2.2.2.2.2.2.2.2.2.2.2.2.1 ?_
    refine zv_iload_n C dX9_closes_192 rfl ?_
    refine zv_iconst C dX9_closes_193 rfl ?_
    refine zv_iadd C dX9_closes_194 ⟨by omega, by omega⟩ ?_
    refine zv_iaload C dX9_closes_195 hL.2.2.1 ⟨by omega, by omega⟩ ?_
    simp (disch := omega) only [zrow_eq, zu1_ne, zu1_eq]
    refine zv_isub C dX9_closes_196 ⟨by omega, by omega⟩ ?_
    refine zv_iload C dX9_closes_197 rfl ?_
    refine zv_isub C dX9_closes_199 ⟨by omega, by omega⟩ ?_
    refine zv_iastore C dX9_closes_200 hL.2.2.1 ⟨by omega, by omega⟩ ?_
    rw [zrow_set]
    refine zv_aload_n C dX9_closes_201 rfl rfl ?_
    refine zv_getR C dX9_closes_202 f_X9_74 hL.1 rfl hL.2.2.2.2.2.2.2.2.2.2.2.2.2.2.2.1 ?_
    refine zv_iload_n C dX9_closes_205 rfl ?_
    refine zv_iconst C dX9_closes_206 rfl ?_
    refine zv_iadd C dX9_closes_207 ⟨by omega, by omega⟩ ?_
    refine zv_iload_n C dX9_closes_208 rfl ?_
    refine zv_if_ne C 216 dX9_closes_209 rfl (fun h209 => ?_) (fun h209 => ?_)
    · refine zv_iload C dX9_closes_216 rfl ?_
      refine zv_iload C dX9_closes_218 rfl ?_
      refine zv_isub C dX9_closes_220 ⟨by omega, by omega⟩ ?_
      refine zv_iastore C dX9_closes_221 hL.2.2.1 ⟨by omega, by omega⟩ ?_
      rw [zrow_set]
      refine zv_iload_n C dX9_closes_222 rfl ?_
      refine zv_iconst C dX9_closes_223 rfl ?_
      refine zv_iadd C dX9_closes_224 ⟨by omega, by omega⟩ ?_
      refine zv_istore_6 C dX9_closes_225 rfl rfl ?_
      have q := lp A1 s hs hI s 0 (by omega)
      rw [show AI 111 0 + 1 + ((0 : Nat) : Int) = AI 111 0 + 1 by omega, nCl2_0] at q
      unfold nCl1 at q
      first | (rw [if_pos (by omega)] at q; exact q) | (rw [if_neg (by omega)] at q; exact q)
    · refine zv_iconst C dX9_closes_212 rfl ?_
      refine zv_goto C 221 dX9_closes_213 rfl ?_
      refine zv_iastore C dX9_closes_221 hL.2.2.1 ⟨by omega, by omega⟩ ?_
      rw [zrow_set]
      refine zv_iload_n C dX9_closes_222 rfl ?_
      refine zv_iconst C dX9_closes_223 rfl ?_
      refine zv_iadd C dX9_closes_224 ⟨by omega, by omega⟩ ?_
      refine zv_istore_6 C dX9_closes_225 rfl rfl ?_
      have q := lp A1 s hs hI s 0 (by omega)
      rw [show AI 111 0 + 1 + ((0 : Nat) : Int) = AI 111 0 + 1 by omega, nCl2_0] at q
      unfold nCl1 at q
      first | (rw [if_pos (by omega)] at q; exact q) | (rw [if_neg (by omega)] at q; exact q)
  intro A1 s hs hI d
  induction d with
  | zero =>
    intro j hj
    have ej : AI 111 0 + 1 + (j : Int) = 40 := by omega
    refine zv_iload C dX9_closes_227 rfl ?_
    refine zv_bipush C dX9_closes_229 rfl ?_
    refine zv_icmp_ge C 285 dX9_closes_231 rfl (fun h231 => ?_) (fun h231 => absurd h231 (by omega))
    refine zv_return C dX9_closes_285 rfl rfl rfl ?_
    rw [ej]
    exact hp A1 hI.1
  | succ d ih =>
    intro j hj
    have q := ih (j + 1) (by omega)
    rw [show AI 111 0 + 1 + ((j + 1 : Nat) : Int) = AI 111 0 + 1 + j + 1 by omega] at q
    obtain ⟨c8, c9, c10, c11, c12, c13⟩ := hI.2.2.2.2.2 j (by omega)
    have tb := mU_b hW (yr := -1) (more := 0) (r := j) g0 g1 (by omega) (by omega) (by omega)
    have cb := mCov_b hW (yr := -1) (more := 0) (t := AI 111 0 + 1 + j) g0 g1 (by omega) (by omega) (by omega) (by omega)
    refine zv_iload C dX9_closes_227 rfl ?_
    refine zv_bipush C dX9_closes_229 rfl ?_
    refine zv_icmp_ge C 285 dX9_closes_231 rfl (fun h231 => absurd h231 (by omega)) (fun h231 => ?_)
    refine zv_aload_n C dX9_closes_234 rfl rfl ?_
    refine zv_getR C dX9_closes_235 f_X9_74 hL.1 rfl hL.2.2.2.2.2.2.2.2.2.2.2.2.2.2.2.1 ?_
    refine zv_sipush C dX9_closes_238 rfl ?_
    refine zv_bipush C dX9_closes_241 rfl ?_
    refine zv_iload_n C dX9_closes_243 rfl ?_
    refine zv_imul C dX9_closes_244 ⟨by omega, by omega⟩ ?_
    refine zv_iadd C dX9_closes_245 ⟨by omega, by omega⟩ ?_
    refine zv_iload C dX9_closes_246 rfl ?_
    refine zv_iadd C dX9_closes_248 ⟨by omega, by omega⟩ ?_
    refine zv_aload_n C dX9_closes_249 rfl rfl ?_
    refine zv_getR C dX9_closes_250 f_X9_89 hL.1 rfl hL.2.2.2.2.2.2.2.2.2.2.2.2.2.2.2.2.2.2.2.2.1 ?_
    refine zv_iload C dX9_closes_253 rfl ?_
    refine zv_iaload C dX9_closes_255 hL.2.2.2.2.2.2.2.1 ⟨by omega, by omega⟩ ?_
    rw [zrow_ne (by decide), c8]
    refine zv_iastore C dX9_closes_256 hL.2.2.1 ⟨by omega, by omega⟩ ?_
    rw [zrow_set]
    refine zv_aload_n C dX9_closes_257 rfl rfl ?_
    refine zv_getR C dX9_closes_258 f_X9_74 hL.1 rfl hL.2.2.2.2.2.2.2.2.2.2.2.2.2.2.2.1 ?_
    refine zv_sipush C dX9_closes_261 rfl ?_
    refine zv_bipush C dX9_closes_264 rfl ?_
    refine zv_iload_n C dX9_closes_266 rfl ?_
    refine zv_imul C dX9_closes_267 ⟨by omega, by omega⟩ ?_
    refine zv_iadd C dX9_closes_268 ⟨by omega, by omega⟩ ?_
    refine zv_iload C dX9_closes_269 rfl ?_
    refine zv_iadd C dX9_closes_271 ⟨by omega, by omega⟩ ?_
    refine zv_aload_n C dX9_closes_272 rfl rfl ?_
    refine zv_iload C dX9_closes_273 rfl ?_
    refine zv_cVi0_1 C dX9_closes_275 k_X9_used l_X9_213 hL.1 rfl ⟨Nat.le_of_ble_eq_true rfl, Nat.le_of_ble_eq_true rfl⟩ ⟨rfl, rfl⟩ ⟨Nat.le_of_ble_eq_true rfl, Nat.le_of_ble_eq_true rfl⟩ rfl rfl ?_
    refine s_X9_used hL (by omega) (by omega) (by rw [zrow_ne (by decide), zrow_ne (by decide), c11, c12, ← mU_at]; exact ⟨by omega, by omega⟩) ?_
    rw [zrow_ne (by decide), zrow_ne (by decide), c11, c12, ← mU_at]
    refine zv_iastore C dX9_closes_278 hL.2.2.1 ⟨by omega, by omega⟩ ?_
    rw [zrow_set, nCl2_step g0 g1 w0.1 (by omega) (by omega) rfl rfl]
    refine zv_iinc_6 C dX9_closes_279 rfl rfl ⟨by omega, by omega⟩ ?_
    refine zv_goto C 227 dX9_closes_282 rfl ?_
    exact q

