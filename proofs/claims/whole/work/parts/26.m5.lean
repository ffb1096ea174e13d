theorem zS_trunc {f : Int → Int} {n : Nat} : ∀ m : Nat, n ≤ m → (∀ i : Int, (n : Int) ≤ i → i < m → f i = 0) → zS f m = zS f n
  | 0, h, _ => by rw [show n = 0 by omega]
  | m + 1, h, hz => by
    by_cases e : n = m + 1
    · rw [e]
    · show zS f m + f m = zS f n
      rw [zS_trunc m (by omega) (fun i h0 h1 => hz i h0 (by omega)), hz m (by omega) (by omega), Int.add_zero]
def zIni (A0 A1 : zAI) (nL : Nat) (o k : Int) : Prop := (∀ a, a ≠ 116 → a ≠ 117 → A1 a = A0 a) ∧ ∀ q : Int, 0 ≤ q → q < k → A1 116 q = (if q < nL ∧ A0 111 (395 + 4 * q + 0) = o then A0 111 (395 + 4 * q + 3) else 0) ∧ A1 117 q = (if q < nL ∧ A0 111 (395 + 4 * q + 0) = o then A0 111 (395 + 4 * q + 2) else 0)
theorem zIni_any {A0 A1 : zAI} {nL : Nat} {o k v w : Int} (h : zIni A0 A1 nL o k) (hv : v = (if k < nL ∧ A0 111 (395 + 4 * k + 0) = o then A0 111 (395 + 4 * k + 3) else 0)) (hw : w = (if k < nL ∧ A0 111 (395 + 4 * k + 0) = o then A0 111 (395 + 4 * k + 2) else 0)) : zIni A0 (zsA (zsA A1 116 k v) 117 k w) nL o (k + 1) := by
  refine ⟨fun a h6 h7 => ?_, fun q h0 h1 => ?_⟩
  · rw [zsA_neF h7, zsA_neF h6]; exact h.1 a h6 h7
  · by_cases e : q = k
    · rw [e, zsA_ne (by decide), zsA_eq, zsA_eq]; exact ⟨hv, hw⟩
    · rw [zsA_nj e, zsA_nj e, zsA_nj e, zsA_nj e]; exact h.2 q h0 (by omega)
theorem zIni_end {A0 A1 : zAI} {nI nL : Nat} {o : Int} {ded cov tax : Int → Int} (hW : mW (A0 111) nI nL) (h : zIni A0 A1 nL o 50) : zSwI A0 A1 ded cov tax (A0 111 1) (mP0 (A0 111) nL o) (A0 111 0 + 1) 0 := by
  obtain ⟨w0, w1, w2, w3, w4, w5, w6, w7, w8, w9⟩ := hW
  refine ⟨fun a ha => h.1 a (by omega) (by omega), fun k h0 h1 => ?_, fun k h0 h1 => ?_, fun k h0 h1 => ?_, fun l h0 h1 => ?_, fun r hr => absurd hr (by omega)⟩
  · rw [(h.2 k h0 h1).1]
    by_cases c : k < nL ∧ A0 111 (395 + 4 * k + 0) = o
    · rw [if_pos c]
      obtain ⟨-, q1, q2, q3⟩ := w9 k h0 c.1
      simp only [mLo] at q1 q2 q3
      omega
    · rw [if_neg c]; omega
  · rw [(h.2 k h0 h1).2]
    by_cases c : k < nL ∧ A0 111 (395 + 4 * k + 0) = o
    · rw [if_pos c]
      obtain ⟨-, q1, q2, q3⟩ := w9 k h0 c.1
      simp only [mLo] at q1 q2 q3
      omega
    · rw [if_neg c]; omega
  · rw [(h.2 k (by omega) h1).1, if_neg (by omega)]
  · show zLs (A1 116) (A1 117) (A0 111 0 + 1 + ((0 : Nat) : Int)) l = mP0 (A0 111) nL o l
    rw [show A0 111 0 + 1 + ((0 : Nat) : Int) = A0 111 0 + 1 by omega]
    unfold zLs mP0 zL0
    rw [zS_trunc (n := nL) 50 (by omega) (fun i g0 g1 => by
      have a1 := (h.2 i (by omega) g1).1
      rw [if_neg (by omega)] at a1
      rw [a1]
      split <;> rfl)]
    refine zS_congr nL (fun i g0 g1 => ?_)
    have a1 := (h.2 i g0 (by omega)).1
    have a2 := (h.2 i g0 (by omega)).2
    simp only [mLo]
    by_cases c : A0 111 (395 + 4 * i + 0) = o
    · rw [if_pos ⟨g1, c⟩] at a1 a2
      rw [a1, a2]
      by_cases c2 : A0 111 0 + 1 ≤ A0 111 (395 + 4 * i + 2) ∧ A0 111 (395 + 4 * i + 2) ≤ l
      · rw [if_pos c2, if_pos ⟨c, c2⟩]
      · rw [if_neg c2, if_neg (fun z => c2 z.2)]
    · rw [if_neg (fun z => c z.2)] at a1 a2
      rw [a1, a2, if_neg (by omega), if_neg (fun z => c z.1)]
theorem zv_genA {G : zG} {pc : Nat} {ls : List (Option zVal)} {st : List zVal} {T : zTt} {FR : zFR} {AR : zAR} {FI : zFI} {k n a : Nat} {i x : Int} {X : zAI} (h : ∀ A3, A3 = X → zV G pc ls st T FR AR FI (zsA A3 a i x) k n) : zV G pc ls st T FR AR FI (zsA X a i x) k n := h X rfl
theorem mTax_b {N : Int → Int} {nI nL : Nat} (hW : mW N nI nL) (o t : Int) : 0 ≤ mTax N nI o t ∧ mTax N nI o t ≤ 2999970 := by
  obtain ⟨w0, w1, w2, w3, w4, w5, w6, w7, w8, w9⟩ := hW
  have := zPs_b w8 o t 1
  unfold mTax
  omega
theorem mDed_b {N : Int → Int} {nI nL : Nat} (hW : mW N nI nL) (o t : Int) : 0 ≤ mDed N nI o t ∧ mDed N nI o t ≤ 2999970 := by
  obtain ⟨w0, w1, w2, w3, w4, w5, w6, w7, w8, w9⟩ := hW
  have := zPs_b w8 o t 0
  unfold mDed
  omega
set_option maxRecDepth 20000 in
theorem s_X9_sweeps {T : zTt} {FR : zFR} {AR : zAR} {FI : zFI} {AI : zAI} {Post : zPost} {o yr more : Int} {nI nL : Nat} (hL : mLay T FR) (hW : mW (AI 111) nI nL) (g0 : 0 ≤ o) (g1 : o < 3) (g2 : 0 ≤ more) (g3 : more ≤ 99999) (hp : ∀ (A1 : zAI) (s : Nat), AI 111 0 + 1 + s = 40 → zSwI AI A1 (mDed (AI 111) nI o) (mCov (AI 111) nI o yr more) (mTax (AI 111) nI o) (AI 111 1) (mP0 (AI 111) nL o) (AI 111 0 + 1) s → Post (zI 0) T FR AR FI A1) : zMet M_X9_sweeps [zR 100, zI o, zI yr, zI more] T FR AR FI AI Post := by
  refine zMet.of [some (zR 100), some (zI o), some (zI yr), some (zI more), none, none] rfl rfl rfl (fun G C => ?_)
  obtain ⟨w0, w1, w2, w3, w4, w5, w6, w7, w8, w9⟩ := id hW
  suffices lp2 : ∀ (d s : Nat) (a5 : Option zVal) (A1 : zAI), AI 111 0 + 1 + s + d = 40 → zSwI AI A1 (mDed (AI 111) nI o) (mCov (AI 111) nI o yr more) (mTax (AI 111) nI o) (AI 111 1) (mP0 (AI 111) nL o) (AI 111 0 + 1) s → zV G 101 [some (zR 100), some (zI o), some (zI yr), some (zI more), some (zI (AI 111 0 + 1 + s)), a5] [] T FR AR FI A1 0 0 from by
    refine zv_iconst C dX9_sweeps_0 rfl ?_
    refine zv_istore_4 C dX9_sweeps_1 rfl rfl ?_
    suffices lp : ∀ (d : Nat) (k : Int) (a5 : Option zVal) (A1 : zAI), k + d = 50 → 0 ≤ k → zIni AI A1 nL o k → zV G 3 [some (zR 100), some (zI o), some (zI yr), some (zI more), some (zI k), a5] [] T FR AR FI A1 0 0 from lp 50 0 none AI (by omega) (by omega) ⟨fun _ _ _ => rfl, fun q h0 h1 => absurd h1 (by omega)⟩
    intro d
    induction d with
    | zero =>
      intro k a5 A1 hk h0 hi
      have e111 : A1 111 = AI 111 := hi.1 111 (by decide) (by decide)
      have ek : k = 50 := by omega
      subst ek
      refine zv_iload C dX9_sweeps_3 rfl ?_
      refine zv_bipush C dX9_sweeps_5 rfl ?_
      refine zv_icmp_ge C 91 dX9_sweeps_7 rfl (fun h7 => ?_) (fun h7 => absurd h7 (by omega))
      refine zv_aload_n C dX9_sweeps_91 rfl rfl ?_
      refine zv_getR C dX9_sweeps_92 f_X9_74 hL.1 rfl hL.2.2.2.2.2.2.2.2.2.2.2.2.2.2.2.1 ?_
      refine zv_iconst C dX9_sweeps_95 rfl ?_
      refine zv_iaload C dX9_sweeps_96 hL.2.2.1 ⟨by omega, by omega⟩ ?_
      simp (disch := omega) only [zsA_neF, zsA_eq, zsA_ne, zrow_neF, zrow_ne, e111]
      refine zv_iconst C dX9_sweeps_97 rfl ?_
      refine zv_iadd C dX9_sweeps_98 ⟨by omega, by omega⟩ ?_
      refine zv_istore_4 C dX9_sweeps_99 rfl rfl ?_
      have q := lp2 (39 - AI 111 0).toNat 0 a5 A1 (by omega) (zIni_end hW hi)
      rw [show AI 111 0 + 1 + ((0 : Nat) : Int) = AI 111 0 + 1 by omega] at q
      exact q
    | succ d ih =>
      intro k a5 A1 hk h0 hi
      have e111 : A1 111 = AI 111 := hi.1 111 (by decide) (by decide)
      refine zv_iload C dX9_sweeps_3 rfl ?_
      refine zv_bipush C dX9_sweeps_5 rfl ?_
      refine zv_icmp_ge C 91 dX9_sweeps_7 rfl (fun h7 => absurd h7 (by omega)) (fun h7 => ?_)
      refine zv_iload C dX9_sweeps_10 rfl ?_
      refine zv_aload_n C dX9_sweeps_12 rfl rfl ?_
      refine zv_getR C dX9_sweeps_13 f_X9_74 hL.1 rfl hL.2.2.2.2.2.2.2.2.2.2.2.2.2.2.2.1 ?_
      refine zv_iconst C dX9_sweeps_16 rfl ?_
      refine zv_iaload C dX9_sweeps_17 hL.2.2.1 ⟨by omega, by omega⟩ ?_
      simp (disch := omega) only [zsA_neF, zsA_eq, zsA_ne, zrow_neF, zrow_ne, e111]
      refine zv_icmp_ge C 36 dX9_sweeps_18 rfl (fun h18 => ?_) (fun h18 => ?_)
      · refine zv_iconst C dX9_sweeps_36 rfl ?_
        refine zv_istore_5 C dX9_sweeps_37 rfl rfl ?_
        refine zv_aload_n C dX9_sweeps_39 rfl rfl ?_
        refine zv_getR C dX9_sweeps_40 f_X9_83 hL.1 rfl hL.2.2.2.2.2.2.2.2.2.2.2.2.2.2.2.2.2.2.1 ?_
        refine zv_iload C dX9_sweeps_43 rfl ?_
        refine zv_iload C dX9_sweeps_45 rfl ?_
        refine zv_if_eq C 60 dX9_sweeps_47 rfl (fun _ => ?_) (fun h => absurd h (by omega))
        refine zv_iconst C dX9_sweeps_60 rfl ?_
        refine zv_iastore C dX9_sweeps_61 hL.2.2.2.2.2.1 ⟨by omega, by omega⟩ ?_
        refine zv_aload_n C dX9_sweeps_62 rfl rfl ?_
        refine zv_getR C dX9_sweeps_63 f_X9_86 hL.1 rfl hL.2.2.2.2.2.2.2.2.2.2.2.2.2.2.2.2.2.2.2.1 ?_
        refine zv_iload C dX9_sweeps_66 rfl ?_
        refine zv_iload C dX9_sweeps_68 rfl ?_
        refine zv_if_eq C 83 dX9_sweeps_70 rfl (fun _ => ?_) (fun h => absurd h (by omega))
        refine zv_iconst C dX9_sweeps_83 rfl ?_
        refine zv_iastore C dX9_sweeps_84 hL.2.2.2.2.2.2.1 ⟨by omega, by omega⟩ ?_
        refine zv_iinc_4 C dX9_sweeps_85 rfl rfl ⟨by omega, by omega⟩ ?_
        refine zv_goto C 3 dX9_sweeps_88 rfl ?_
        exact ih (k + 1) _ _ (by omega) (by omega) (zIni_any hi (by first | (rw [if_pos (by omega)]; done) | (rw [if_neg (by omega)]; done)) (by first | (rw [if_pos (by omega)]; done) | (rw [if_neg (by omega)]; done)))
      · refine zv_aload_n C dX9_sweeps_21 rfl rfl ?_
        refine zv_iload C dX9_sweeps_22 rfl ?_
        refine zv_iconst C dX9_sweeps_24 rfl ?_
        refine zv_cVi0_2 C dX9_sweeps_25 k_X9_lost l_X9_189 hL.1 rfl ⟨Nat.le_of_ble_eq_true rfl, Nat.le_of_ble_eq_true rfl⟩ ⟨rfl, rfl⟩ ⟨Nat.le_of_ble_eq_true rfl, Nat.le_of_ble_eq_true rfl⟩ rfl rfl ?_
        refine s_X9_lost hL (by omega) (by omega) (by omega) (by omega) ?_
        simp (disch := omega) only [zsA_neF, zsA_eq, zsA_ne, zrow_neF, zrow_ne, e111]
        refine zv_iload_n C dX9_sweeps_28 rfl ?_
        refine zv_icmp_ne C 36 dX9_sweeps_29 rfl (fun h29 => ?_) (fun h29 => ?_)
        · refine zv_iconst C dX9_sweeps_36 rfl ?_
          refine zv_istore_5 C dX9_sweeps_37 rfl rfl ?_
          refine zv_aload_n C dX9_sweeps_39 rfl rfl ?_
          refine zv_getR C dX9_sweeps_40 f_X9_83 hL.1 rfl hL.2.2.2.2.2.2.2.2.2.2.2.2.2.2.2.2.2.2.1 ?_
          refine zv_iload C dX9_sweeps_43 rfl ?_
          refine zv_iload C dX9_sweeps_45 rfl ?_
          refine zv_if_eq C 60 dX9_sweeps_47 rfl (fun _ => ?_) (fun h => absurd h (by omega))
          refine zv_iconst C dX9_sweeps_60 rfl ?_
          refine zv_iastore C dX9_sweeps_61 hL.2.2.2.2.2.1 ⟨by omega, by omega⟩ ?_
          refine zv_aload_n C dX9_sweeps_62 rfl rfl ?_
          refine zv_getR C dX9_sweeps_63 f_X9_86 hL.1 rfl hL.2.2.2.2.2.2.2.2.2.2.2.2.2.2.2.2.2.2.2.1 ?_
          refine zv_iload C dX9_sweeps_66 rfl ?_
          refine zv_iload C dX9_sweeps_68 rfl ?_
          refine zv_if_eq C 83 dX9_sweeps_70 rfl (fun _ => ?_) (fun h => absurd h (by omega))
          refine zv_iconst C dX9_sweeps_83 rfl ?_
          refine zv_iastore C dX9_sweeps_84 hL.2.2.2.2.2.2.1 ⟨by omega, by omega⟩ ?_
          refine zv_iinc_4 C dX9_sweeps_85 rfl rfl ⟨by omega, by omega⟩ ?_
          refine zv_goto C 3 dX9_sweeps_88 rfl ?_
          exact ih (k + 1) _ _ (by omega) (by omega) (zIni_any hi (by first | (rw [if_pos (by omega)]; done) | (rw [if_neg (by omega)]; done)) (by first | (rw [if_pos (by omega)]; done) | (rw [if_neg (by omega)]; done)))
        · refine zv_iconst C dX9_sweeps_32 rfl ?_
          refine zv_goto C 37 dX9_sweeps_33 rfl ?_
          refine zv_istore_5 C dX9_sweeps_37 rfl rfl ?_
          refine zv_aload_n C dX9_sweeps_39 rfl rfl ?_
          refine zv_getR C dX9_sweeps_40 f_X9_83 hL.1 rfl hL.2.2.2.2.2.2.2.2.2.2.2.2.2.2.2.2.2.2.1 ?_
          refine zv_iload C dX9_sweeps_43 rfl ?_
          refine zv_iload C dX9_sweeps_45 rfl ?_
          refine zv_if_eq C 60 dX9_sweeps_47 rfl (fun h => absurd h (by omega)) (fun _ => ?_)
          refine zv_aload_n C dX9_sweeps_50 rfl rfl ?_
          refine zv_iload C dX9_sweeps_51 rfl ?_
          refine zv_iconst C dX9_sweeps_53 rfl ?_
          refine zv_cVi0_2 C dX9_sweeps_54 k_X9_lost l_X9_189 hL.1 rfl ⟨Nat.le_of_ble_eq_true rfl, Nat.le_of_ble_eq_true rfl⟩ ⟨rfl, rfl⟩ ⟨Nat.le_of_ble_eq_true rfl, Nat.le_of_ble_eq_true rfl⟩ rfl rfl ?_
          refine s_X9_lost hL (by omega) (by omega) (by omega) (by omega) ?_
          simp (disch := omega) only [zsA_neF, zsA_eq, zsA_ne, zrow_neF, zrow_ne, e111]
          refine zv_goto C 61 dX9_sweeps_57 rfl ?_
          refine zv_iastore C dX9_sweeps_61 hL.2.2.2.2.2.1 ⟨by omega, by omega⟩ ?_
          refine zv_aload_n C dX9_sweeps_62 rfl rfl ?_
          refine zv_getR C dX9_sweeps_63 f_X9_86 hL.1 rfl hL.2.2.2.2.2.2.2.2.2.2.2.2.2.2.2.2.2.2.2.1 ?_
          refine zv_iload C dX9_sweeps_66 rfl ?_
          refine zv_iload C dX9_sweeps_68 rfl ?_
          refine zv_if_eq C 83 dX9_sweeps_70 rfl (fun h => absurd h (by omega)) (fun _ => ?_)
          refine zv_aload_n C dX9_sweeps_73 rfl rfl ?_
          refine zv_iload C dX9_sweeps_74 rfl ?_
          refine zv_iconst C dX9_sweeps_76 rfl ?_
          refine zv_cVi0_2 C dX9_sweeps_77 k_X9_lost l_X9_189 hL.1 rfl ⟨Nat.le_of_ble_eq_true rfl, Nat.le_of_ble_eq_true rfl⟩ ⟨rfl, rfl⟩ ⟨Nat.le_of_ble_eq_true rfl, Nat.le_of_ble_eq_true rfl⟩ rfl rfl ?_
          refine s_X9_lost hL (by omega) (by omega) (by omega) (by omega) ?_
          simp (disch := omega) only [zsA_neF, zsA_eq, zsA_ne, zrow_neF, zrow_ne, e111]
          refine zv_goto C 84 dX9_sweeps_80 rfl ?_
          refine zv_iastore C dX9_sweeps_84 hL.2.2.2.2.2.2.1 ⟨by omega, by omega⟩ ?_
          refine zv_iinc_4 C dX9_sweeps_85 rfl rfl ⟨by omega, by omega⟩ ?_
          refine zv_goto C 3 dX9_sweeps_88 rfl ?_
          exact ih (k + 1) _ _ (by omega) (by omega) (zIni_any hi (by first | (rw [if_pos (by omega)]; done) | (rw [if_neg (by omega)]; done)) (by first | (rw [if_pos (by omega)]; done) | (rw [if_neg (by omega)]; done)))
  intro d
  induction d with
  | zero =>
    intro s a5 A1 hd hI
    refine zv_iload C dX9_sweeps_101 rfl ?_
    refine zv_bipush C dX9_sweeps_103 rfl ?_
    refine zv_icmp_ge C 344 dX9_sweeps_105 rfl (fun h105 => ?_) (fun h105 => absurd h105 (by omega))
    refine zv_return C dX9_sweeps_344 rfl rfl rfl ?_
    exact hp A1 s (by omega) hI
  | succ d ih =>
    intro s a5 A1 hd hI
    obtain ⟨i1, i2, i3, i4, i5, i6⟩ := id hI
    have e111 : A1 111 = AI 111 := i1 111 (by decide)
    have tb := mTax_b hW o (AI 111 0 + 1 + s)
    have db := mDed_b hW o (AI 111 0 + 1 + s)
    have pb := (w7 o (AI 111 0 + 1 + s) g0 g1 (by omega) (by omega)).2
    refine zv_iload C dX9_sweeps_101 rfl ?_
    refine zv_bipush C dX9_sweeps_103 rfl ?_
    refine zv_icmp_ge C 344 dX9_sweeps_105 rfl (fun h105 => absurd h105 (by omega)) (fun h105 => ?_)
    refine zv_aload_n C dX9_sweeps_108 rfl rfl ?_
    refine zv_getR C dX9_sweeps_109 f_X9_89 hL.1 rfl hL.2.2.2.2.2.2.2.2.2.2.2.2.2.2.2.2.2.2.2.2.1 ?_
    refine zv_iload C dX9_sweeps_112 rfl ?_
    refine zv_aload_n C dX9_sweeps_114 rfl rfl ?_
    refine zv_iload_n C dX9_sweeps_115 rfl ?_
    refine zv_iload C dX9_sweeps_116 rfl ?_
    refine zv_iconst C dX9_sweeps_118 rfl ?_
    refine zv_cVi0_3 C dX9_sweeps_119 k_X9_partsOf l_X9_192 hL.1 rfl ⟨Nat.le_of_ble_eq_true rfl, Nat.le_of_ble_eq_true rfl⟩ ⟨rfl, rfl⟩ ⟨Nat.le_of_ble_eq_true rfl, Nat.le_of_ble_eq_true rfl⟩ rfl rfl ?_
    refine s_X9_partsOf hL (by simp (disch := omega) only [zsA_neF, zsA_eq, zsA_ne, zrow_neF, zrow_ne, e111]; exact w3) w4 (by simp (disch := omega) only [zsA_neF, zsA_eq, zsA_ne, zrow_neF, zrow_ne, e111]; exact w8) (by omega) (by omega) ?_
    simp (disch := omega) only [zsA_neF, zsA_eq, zsA_ne, zrow_neF, zrow_ne, e111]
    rw [show zPs (mIt (AI 111)) nI o (AI 111 0 + 1 + s) 1 = mTax (AI 111) nI o (AI 111 0 + 1 + s) from rfl]
    refine zv_iastore C dX9_sweeps_122 hL.2.2.2.2.2.2.2.1 ⟨by omega, by omega⟩ ?_
    refine zv_aload_n C dX9_sweeps_123 rfl rfl ?_
    refine zv_getR C dX9_sweeps_124 f_X9_92 hL.1 rfl hL.2.2.2.2.2.2.2.2.2.2.2.2.2.2.2.2.2.2.2.2.2.1 ?_
    refine zv_iload C dX9_sweeps_127 rfl ?_
    refine zv_aload_n C dX9_sweeps_129 rfl rfl ?_
    refine zv_getR C dX9_sweeps_130 f_X9_89 hL.1 rfl hL.2.2.2.2.2.2.2.2.2.2.2.2.2.2.2.2.2.2.2.2.1 ?_
    refine zv_iload C dX9_sweeps_133 rfl ?_
    refine zv_iaload C dX9_sweeps_135 hL.2.2.2.2.2.2.2.1 ⟨by omega, by omega⟩ ?_
    simp (disch := omega) only [zsA_neF, zsA_eq, zsA_ne, zrow_neF, zrow_ne, e111]
    refine zv_aload_n C dX9_sweeps_136 rfl rfl ?_
    refine zv_iload_n C dX9_sweeps_137 rfl ?_
    refine zv_iload C dX9_sweeps_138 rfl ?_
    refine zv_cVi0_2 C dX9_sweeps_140 k_X9_profitOf l_X9_196 hL.1 rfl ⟨Nat.le_of_ble_eq_true rfl, Nat.le_of_ble_eq_true rfl⟩ ⟨rfl, rfl⟩ ⟨Nat.le_of_ble_eq_true rfl, Nat.le_of_ble_eq_true rfl⟩ rfl rfl ?_
    refine s_X9_profitOf hL (by omega) (by omega) (by omega) (by omega) ?_
    simp (disch := omega) only [zsA_neF, zsA_eq, zsA_ne, zrow_neF, zrow_ne, e111]
    refine zv_iadd C dX9_sweeps_143 ⟨by omega, by omega⟩ ?_
    suffices J155 : ∀ v : Int, v = (if (AI 111 0 + 1 + s) = yr then more else 0) → zV G 155 [some (zR 100), some (zI o), some (zI yr), some (zI more), some (zI (AI 111 0 + 1 + s)), a5] (zI v :: zI ((mTax (AI 111) nI o (AI 111 0 + 1 + s)) + AI 111 (125 + 40 * o + (AI 111 0 + 1 + s))) :: zI (AI 111 0 + 1 + s) :: zR 119 :: []) T FR AR FI (zsA A1 118 (AI 111 0 + 1 + s) (mTax (AI 111) nI o (AI 111 0 + 1 + s))) 0 0 from by
      refine zv_iload C dX9_sweeps_144 rfl ?_
      refine zv_iload_n C dX9_sweeps_146 rfl ?_
      refine zv_icmp_ne C 154 dX9_sweeps_147 rfl (fun h147 => ?_) (fun h147 => ?_)
      · refine zv_iconst C dX9_sweeps_154 rfl ?_
        first | exact J155 _ (if_pos (by omega)).symm | exact J155 _ (if_neg (by omega)).symm
      · refine zv_iload_n C dX9_sweeps_150 rfl ?_
        refine zv_goto C 155 dX9_sweeps_151 rfl ?_
        first | exact J155 _ (if_pos (by omega)).symm | exact J155 _ (if_neg (by omega)).symm
    intro v hv
    have vb : 0 ≤ v ∧ v ≤ 99999 := by rw [hv]; split <;> omega
    refine zv_iadd C dX9_sweeps_155 ⟨by omega, by omega⟩ ?_
    rw [hv, show (mTax (AI 111) nI o (AI 111 0 + 1 + s)) + AI 111 (125 + 40 * o + (AI 111 0 + 1 + s)) + (if (AI 111 0 + 1 + s) = yr then more else 0) = (mCov (AI 111) nI o yr more (AI 111 0 + 1 + s)) from rfl]
    refine zv_iastore C dX9_sweeps_156 hL.2.2.2.2.2.2.2.2.1 ⟨by omega, by omega⟩ ?_
    have cb : 0 ≤ (mCov (AI 111) nI o yr more (AI 111 0 + 1 + s)) ∧ (mCov (AI 111) nI o yr more (AI 111 0 + 1 + s)) ≤ 3199968 := by unfold mCov; rw [← hv]; omega
    refine zv_aload_n C dX9_sweeps_157 rfl rfl ?_
    refine zv_getR C dX9_sweeps_158 f_X9_95 hL.1 rfl hL.2.2.2.2.2.2.2.2.2.2.2.2.2.2.2.2.2.2.2.2.2.2.1 ?_
    refine zv_iload C dX9_sweeps_161 rfl ?_
    refine zv_aload_n C dX9_sweeps_163 rfl rfl ?_
    refine zv_iload_n C dX9_sweeps_164 rfl ?_
    refine zv_iload C dX9_sweeps_165 rfl ?_
    refine zv_iconst C dX9_sweeps_167 rfl ?_
    refine zv_cVi0_3 C dX9_sweeps_168 k_X9_partsOf l_X9_192 hL.1 rfl ⟨Nat.le_of_ble_eq_true rfl, Nat.le_of_ble_eq_true rfl⟩ ⟨rfl, rfl⟩ ⟨Nat.le_of_ble_eq_true rfl, Nat.le_of_ble_eq_true rfl⟩ rfl rfl ?_
    refine s_X9_partsOf hL (by simp (disch := omega) only [zsA_neF, zsA_eq, zsA_ne, zrow_neF, zrow_ne, e111]; exact w3) w4 (by simp (disch := omega) only [zsA_neF, zsA_eq, zsA_ne, zrow_neF, zrow_ne, e111]; exact w8) (by omega) (by omega) ?_
    simp (disch := omega) only [zsA_neF, zsA_eq, zsA_ne, zrow_neF, zrow_ne, e111]
    rw [show zPs (mIt (AI 111)) nI o (AI 111 0 + 1 + s) 0 = mDed (AI 111) nI o (AI 111 0 + 1 + s) from rfl]
    refine zv_iastore C dX9_sweeps_171 hL.2.2.2.2.2.2.2.2.2.1 ⟨by omega, by omega⟩ ?_
    refine zv_aload_n C dX9_sweeps_172 rfl rfl ?_
    refine zv_getR C dX9_sweeps_173 f_X9_98 hL.1 rfl hL.2.2.2.2.2.2.2.2.2.2.2.2.2.2.2.2.2.2.2.2.2.2.2.1 ?_
    refine zv_iload C dX9_sweeps_176 rfl ?_
    suffices J212 : ∀ u : Int, u = min (mDed (AI 111) nI o (AI 111 0 + 1 + s)) (mCov (AI 111) nI o yr more (AI 111 0 + 1 + s)) → zV G 212 [some (zR 100), some (zI o), some (zI yr), some (zI more), some (zI (AI 111 0 + 1 + s)), a5] (zI u :: zI (AI 111 0 + 1 + s) :: zR 121 :: []) T FR AR FI (zsA (zsA (zsA A1 118 (AI 111 0 + 1 + s) (mTax (AI 111) nI o (AI 111 0 + 1 + s))) 119 (AI 111 0 + 1 + s) (mCov (AI 111) nI o yr more (AI 111 0 + 1 + s))) 120 (AI 111 0 + 1 + s) (mDed (AI 111) nI o (AI 111 0 + 1 + s))) 0 0 from by
      refine zv_aload_n C dX9_sweeps_178 rfl rfl ?_
      refine zv_getR C dX9_sweeps_179 f_X9_95 hL.1 rfl hL.2.2.2.2.2.2.2.2.2.2.2.2.2.2.2.2.2.2.2.2.2.2.1 ?_
      refine zv_iload C dX9_sweeps_182 rfl ?_
      refine zv_iaload C dX9_sweeps_184 hL.2.2.2.2.2.2.2.2.2.1 ⟨by omega, by omega⟩ ?_
      simp (disch := omega) only [zsA_neF, zsA_eq, zsA_ne, zrow_neF, zrow_ne, e111]
      refine zv_aload_n C dX9_sweeps_185 rfl rfl ?_
      refine zv_getR C dX9_sweeps_186 f_X9_92 hL.1 rfl hL.2.2.2.2.2.2.2.2.2.2.2.2.2.2.2.2.2.2.2.2.2.1 ?_
      refine zv_iload C dX9_sweeps_189 rfl ?_
      refine zv_iaload C dX9_sweeps_191 hL.2.2.2.2.2.2.2.2.1 ⟨by omega, by omega⟩ ?_
      simp (disch := omega) only [zsA_neF, zsA_eq, zsA_ne, zrow_neF, zrow_ne, e111]
      refine zv_icmp_ge C 205 dX9_sweeps_192 rfl (fun h192 => ?_) (fun h192 => ?_)
      · refine zv_aload_n C dX9_sweeps_205 rfl rfl ?_
        refine zv_getR C dX9_sweeps_206 f_X9_92 hL.1 rfl hL.2.2.2.2.2.2.2.2.2.2.2.2.2.2.2.2.2.2.2.2.2.1 ?_
        refine zv_iload C dX9_sweeps_209 rfl ?_
        refine zv_iaload C dX9_sweeps_211 hL.2.2.2.2.2.2.2.2.1 ⟨by omega, by omega⟩ ?_
        try simp (disch := omega) only [zsA_neF, zsA_eq, zsA_ne, zrow_neF, zrow_ne, e111]
        first | exact J212 _ (by omega)
      · refine zv_aload_n C dX9_sweeps_195 rfl rfl ?_
        refine zv_getR C dX9_sweeps_196 f_X9_95 hL.1 rfl hL.2.2.2.2.2.2.2.2.2.2.2.2.2.2.2.2.2.2.2.2.2.2.1 ?_
        refine zv_iload C dX9_sweeps_199 rfl ?_
        refine zv_iaload C dX9_sweeps_201 hL.2.2.2.2.2.2.2.2.2.1 ⟨by omega, by omega⟩ ?_
        simp (disch := omega) only [zsA_neF, zsA_eq, zsA_ne, zrow_neF, zrow_ne, e111]
        refine zv_goto C 212 dX9_sweeps_202 rfl ?_
        try simp (disch := omega) only [zsA_neF, zsA_eq, zsA_ne, zrow_neF, zrow_ne, e111]
        first | exact J212 _ (by omega)
    intro u hu
    refine zv_iastore C dX9_sweeps_212 hL.2.2.2.2.2.2.2.2.2.2.1 ⟨by omega, by omega⟩ ?_
    refine zv_aload_n C dX9_sweeps_213 rfl rfl ?_
    refine zv_getR C dX9_sweeps_214 f_X9_101 hL.1 rfl hL.2.2.2.2.2.2.2.2.2.2.2.2.2.2.2.2.2.2.2.2.2.2.2.2.1 ?_
    refine zv_iload C dX9_sweeps_217 rfl ?_
    refine zv_aload_n C dX9_sweeps_219 rfl rfl ?_
    refine zv_iload C dX9_sweeps_220 rfl ?_
    refine zv_aload_n C dX9_sweeps_222 rfl rfl ?_
    refine zv_getR C dX9_sweeps_223 f_X9_92 hL.1 rfl hL.2.2.2.2.2.2.2.2.2.2.2.2.2.2.2.2.2.2.2.2.2.1 ?_
    refine zv_iload C dX9_sweeps_226 rfl ?_
    refine zv_iaload C dX9_sweeps_228 hL.2.2.2.2.2.2.2.2.1 ⟨by omega, by omega⟩ ?_
    simp (disch := omega) only [zsA_neF, zsA_eq, zsA_ne, zrow_neF, zrow_ne, e111]
    refine zv_aload_n C dX9_sweeps_229 rfl rfl ?_
    refine zv_getR C dX9_sweeps_230 f_X9_98 hL.1 rfl hL.2.2.2.2.2.2.2.2.2.2.2.2.2.2.2.2.2.2.2.2.2.2.2.1 ?_
    refine zv_iload C dX9_sweeps_233 rfl ?_
    refine zv_iaload C dX9_sweeps_235 hL.2.2.2.2.2.2.2.2.2.2.1 ⟨by omega, by omega⟩ ?_
    simp (disch := omega) only [zsA_neF, zsA_eq, zsA_ne, zrow_neF, zrow_ne, e111]
    refine zv_isub C dX9_sweeps_236 ⟨by omega, by omega⟩ ?_
    refine zv_cVi0_2 C dX9_sweeps_237 k_X9_usesLosses l_X9_199 hL.1 rfl ⟨Nat.le_of_ble_eq_true rfl, Nat.le_of_ble_eq_true rfl⟩ ⟨rfl, rfl⟩ ⟨Nat.le_of_ble_eq_true rfl, Nat.le_of_ble_eq_true rfl⟩ rfl rfl ?_
    refine s_X9_usesLosses hL (by simp (disch := omega) only [zsA_neF]; exact i2) (by simp (disch := omega) only [zsA_neF]; exact i3) (by omega) (by omega) (fun lf hlf hl => ?_)
    simp (disch := omega) only [zsA_neF] at hlf hl ⊢
    rw [hu] at hl ⊢
    refine zv_iastore C dX9_sweeps_240 hL.2.2.2.2.2.2.2.2.2.2.2.1 ⟨by omega, by omega⟩ ?_
    refine zv_aload_n C dX9_sweeps_241 rfl rfl ?_
    refine zv_getR C dX9_sweeps_242 f_X9_83 hL.1 rfl hL.2.2.2.2.2.2.2.2.2.2.2.2.2.2.2.2.2.2.1 ?_
    refine zv_bipush C dX9_sweeps_245 rfl ?_
    refine zv_iload C dX9_sweeps_247 rfl ?_
    refine zv_iadd C dX9_sweeps_249 ⟨by omega, by omega⟩ ?_
    refine zv_aload_n C dX9_sweeps_250 rfl rfl ?_
    refine zv_getR C dX9_sweeps_251 f_X9_95 hL.1 rfl hL.2.2.2.2.2.2.2.2.2.2.2.2.2.2.2.2.2.2.2.2.2.2.1 ?_
    refine zv_iload C dX9_sweeps_254 rfl ?_
    refine zv_iaload C dX9_sweeps_256 hL.2.2.2.2.2.2.2.2.2.1 ⟨by omega, by omega⟩ ?_
    simp (disch := omega) only [zsA_neF, zsA_eq, zsA_ne, zrow_neF, zrow_ne, e111]
    refine zv_aload_n C dX9_sweeps_257 rfl rfl ?_
    refine zv_getR C dX9_sweeps_258 f_X9_98 hL.1 rfl hL.2.2.2.2.2.2.2.2.2.2.2.2.2.2.2.2.2.2.2.2.2.2.2.1 ?_
    refine zv_iload C dX9_sweeps_261 rfl ?_
    refine zv_iaload C dX9_sweeps_263 hL.2.2.2.2.2.2.2.2.2.2.1 ⟨by omega, by omega⟩ ?_
    simp (disch := omega) only [zsA_neF, zsA_eq, zsA_ne, zrow_neF, zrow_ne, e111]
    refine zv_isub C dX9_sweeps_264 ⟨by omega, by omega⟩ ?_
    refine zv_iastore C dX9_sweeps_265 hL.2.2.2.2.2.1 ⟨by omega, by omega⟩ ?_
    refine zv_aload_n C dX9_sweeps_266 rfl rfl ?_
    refine zv_getR C dX9_sweeps_267 f_X9_86 hL.1 rfl hL.2.2.2.2.2.2.2.2.2.2.2.2.2.2.2.2.2.2.2.1 ?_
    refine zv_bipush C dX9_sweeps_270 rfl ?_
    refine zv_iload C dX9_sweeps_272 rfl ?_
    refine zv_iadd C dX9_sweeps_274 ⟨by omega, by omega⟩ ?_
    refine zv_iload C dX9_sweeps_275 rfl ?_
    refine zv_aload_n C dX9_sweeps_277 rfl rfl ?_
    refine zv_getR C dX9_sweeps_278 f_X9_74 hL.1 rfl hL.2.2.2.2.2.2.2.2.2.2.2.2.2.2.2.1 ?_
    refine zv_iconst C dX9_sweeps_281 rfl ?_
    refine zv_iaload C dX9_sweeps_282 hL.2.2.1 ⟨by omega, by omega⟩ ?_
    simp (disch := omega) only [zsA_neF, zsA_eq, zsA_ne, zrow_neF, zrow_ne, e111]
    refine zv_iadd C dX9_sweeps_283 ⟨by omega, by omega⟩ ?_
    refine zv_iastore C dX9_sweeps_284 hL.2.2.2.2.2.2.1 ⟨by omega, by omega⟩ ?_
    refine zv_aload_n C dX9_sweeps_285 rfl rfl ?_
    refine zv_getR C dX9_sweeps_286 f_X9_104 hL.1 rfl hL.2.2.2.2.2.2.2.2.2.2.2.2.2.2.2.2.2.2.2.2.2.2.2.2.2.1 ?_
    refine zv_iload C dX9_sweeps_289 rfl ?_
    refine zv_iconst C dX9_sweeps_291 rfl ?_
    refine zv_iastore C dX9_sweeps_292 hL.2.2.2.2.2.2.2.2.2.2.2.2.1 ⟨by omega, by omega⟩ ?_
    refine zv_genA (fun A3 hA3 => ?_)
    have r0 : ∀ a, a < 116 ∨ 123 < a → A3 a = A1 a := fun a ha => by rw [hA3]; simp (disch := omega) only [zsA_neF, zrow_neF]
    have r6 : A3 116 = zu1 lf (10 + (AI 111 0 + 1 + s)) ((mDed (AI 111) nI o (AI 111 0 + 1 + s)) - min (mDed (AI 111) nI o (AI 111 0 + 1 + s)) (mCov (AI 111) nI o yr more (AI 111 0 + 1 + s))) := by rw [hA3]; simp (disch := omega) only [zsA_neF, zsA_eqF, zrow_eqF, zrow_neF]
    have r7 : A3 117 = zu1 (A1 117) (10 + (AI 111 0 + 1 + s)) ((AI 111 0 + 1 + s) + AI 111 1) := by rw [hA3]; simp (disch := omega) only [zsA_neF, zsA_eqF, zrow_eqF, zrow_neF]
    have r8 : A3 118 = zu1 (A1 118) (AI 111 0 + 1 + s) (mTax (AI 111) nI o (AI 111 0 + 1 + s)) := by rw [hA3]; simp (disch := omega) only [zsA_neF, zsA_eqF, zrow_eqF, zrow_neF]
    have r9 : A3 119 = zu1 (A1 119) (AI 111 0 + 1 + s) (mCov (AI 111) nI o yr more (AI 111 0 + 1 + s)) := by rw [hA3]; simp (disch := omega) only [zsA_neF, zsA_eqF, zrow_eqF, zrow_neF]
    have r10 : A3 120 = zu1 (A1 120) (AI 111 0 + 1 + s) (mDed (AI 111) nI o (AI 111 0 + 1 + s)) := by rw [hA3]; simp (disch := omega) only [zsA_neF, zsA_eqF, zrow_eqF, zrow_neF]
    have r11 : A3 121 = zu1 (A1 121) (AI 111 0 + 1 + s) (min (mDed (AI 111) nI o (AI 111 0 + 1 + s)) (mCov (AI 111) nI o yr more (AI 111 0 + 1 + s))) := by rw [hA3]; simp (disch := omega) only [zsA_neF, zsA_eqF, zrow_eqF, zrow_neF]
    have r12 : A3 122 = zu1 (A1 122) (AI 111 0 + 1 + s) (min ((mCov (AI 111) nI o yr more (AI 111 0 + 1 + s)) - min (mDed (AI 111) nI o (AI 111 0 + 1 + s)) (mCov (AI 111) nI o yr more (AI 111 0 + 1 + s))) (zLs (A1 116) (A1 117) (AI 111 0 + 1 + s) 59)) := by rw [hA3]; simp (disch := omega) only [zsA_neF, zsA_eqF, zrow_eqF, zrow_neF]
    have r13 : A3 123 = A1 123 := by rw [hA3]; simp (disch := omega) only [zsA_neF, zsA_eqF, zrow_eqF, zrow_neF]
    have q6 : ∀ k : Int, 0 ≤ k → k < 50 → 0 ≤ A3 116 k ∧ A3 116 k ≤ 3000000 := fun k a b => by
      rw [r6]
      by_cases e : k = 10 + (AI 111 0 + 1 + s)
      · rw [e, zu1_eq]; omega
      · rw [zu1_ne e]; have g1 := hlf k a b; have g2 := i2 k a b; omega
    clear hA3
    generalize hg : (fun k => if (AI 111 0 + 1 + s) < A3 117 k then A3 116 k else 0) = g
    have gb : ∀ k : Int, 0 ≤ k → k < 50 → 0 ≤ g k ∧ g k ≤ 3000000 := fun k a b => by
      rw [← hg]; have := q6 k a b; dsimp only; split <;> omega
    suffices lp3 : ∀ (d k : Nat), k + d = 50 → zV G 296 [some (zR 100), some (zI o), some (zI yr), some (zI more), some (zI (AI 111 0 + 1 + s)), some (zI (k : Int))] [] T FR AR FI (zsA A3 123 (AI 111 0 + 1 + s) (zS g k)) 0 0 from by
      refine zv_iconst C dX9_sweeps_293 rfl ?_
      refine zv_istore_5 C dX9_sweeps_294 rfl rfl ?_
      exact lp3 50 0 (by omega)
    intro d3
    induction d3 with
    | zero =>
      intro k hk
      have ek : k = 50 := by omega
      subst ek
      refine zv_iload C dX9_sweeps_296 rfl ?_
      refine zv_bipush C dX9_sweeps_298 rfl ?_
      refine zv_icmp_ge C 338 dX9_sweeps_300 rfl (fun h300 => ?_) (fun h300 => absurd h300 (by omega))
      refine zv_iinc_4 C dX9_sweeps_338 rfl rfl ⟨by omega, by omega⟩ ?_
      refine zv_goto C 101 dX9_sweeps_341 rfl ?_
      have q := ih (s + 1) (some (zI ((50 : Nat) : Int))) (zsA A3 123 (AI 111 0 + 1 + s) (zS g 50)) (by omega) (zSw_step (tax := mTax (AI 111) nI o) (lf := lf) hI (by omega) (by omega) (by omega) (by omega) (by omega) (by omega) (by omega) hlf hl (fun a ha => by rw [zsA_neF (by omega)]; exact r0 a ha) (by rw [zsA_neF (by decide)]; exact r6) (by rw [zsA_neF (by decide)]; exact r7) (by rw [zsA_neF (by decide)]; exact r8) (by rw [zsA_neF (by decide)]; exact r9) (by rw [zsA_neF (by decide)]; exact r10) (by rw [zsA_neF (by decide)]; exact r11) (by rw [zsA_neF (by decide)]; exact r12) (by rw [zsA_eqF, r13, zsA_neF (by decide), zsA_neF (by decide), hg]))
      rw [show AI 111 0 + 1 + ((s + 1 : Nat) : Int) = (AI 111 0 + 1 + s) + 1 by omega] at q
      exact q
    | succ d3 ih3 =>
      intro k hk
      have q := ih3 (k + 1) (by omega)
      have gk := gb k (by omega) (by omega)
      have sb1 := zS_nn (f := g) k (fun i a b => (gb i a (by omega)).1)
      have sb2 := zS_ub (f := g) (c := 3000000) k (fun i a b => (gb i a (by omega)).2)
      have gv : g k = (if (AI 111 0 + 1 + s) < A3 117 k then A3 116 k else 0) := by rw [← hg]
      refine zv_iload C dX9_sweeps_296 rfl ?_
      refine zv_bipush C dX9_sweeps_298 rfl ?_
      refine zv_icmp_ge C 338 dX9_sweeps_300 rfl (fun h300 => absurd h300 (by omega)) (fun h300 => ?_)
      refine zv_aload_n C dX9_sweeps_303 rfl rfl ?_
      refine zv_getR C dX9_sweeps_304 f_X9_86 hL.1 rfl hL.2.2.2.2.2.2.2.2.2.2.2.2.2.2.2.2.2.2.2.1 ?_
      refine zv_iload C dX9_sweeps_307 rfl ?_
      refine zv_iaload C dX9_sweeps_309 hL.2.2.2.2.2.2.1 ⟨by omega, by omega⟩ ?_
      simp (disch := omega) only [zsA_ne, zsA_eq]
      refine zv_iload C dX9_sweeps_310 rfl ?_
      refine zv_icmp_le C 332 dX9_sweeps_312 rfl (fun h312 => ?_) (fun h312 => ?_)
      · first | (rw [zsA_zsA, ← gv, show zS g k + g k = zS g (k + 1) from rfl]) | (rw [if_neg (by omega)] at gv; rw [show zS g k = zS g (k + 1) from by show _ = zS g k + g k; omega])
        refine zv_iinc_5 C dX9_sweeps_332 rfl rfl ⟨by omega, by omega⟩ ?_
        refine zv_goto C 296 dX9_sweeps_335 rfl ?_
        exact q
      · refine zv_aload_n C dX9_sweeps_315 rfl rfl ?_
        refine zv_getR C dX9_sweeps_316 f_X9_104 hL.1 rfl hL.2.2.2.2.2.2.2.2.2.2.2.2.2.2.2.2.2.2.2.2.2.2.2.2.2.1 ?_
        refine zv_iload C dX9_sweeps_319 rfl ?_
        refine zv_dup2 C dX9_sweeps_321 rfl rfl ?_
        refine zv_iaload C dX9_sweeps_322 hL.2.2.2.2.2.2.2.2.2.2.2.2.1 ⟨by omega, by omega⟩ ?_
        simp (disch := omega) only [zsA_ne, zsA_eq]
        refine zv_aload_n C dX9_sweeps_323 rfl rfl ?_
        refine zv_getR C dX9_sweeps_324 f_X9_83 hL.1 rfl hL.2.2.2.2.2.2.2.2.2.2.2.2.2.2.2.2.2.2.1 ?_
        refine zv_iload C dX9_sweeps_327 rfl ?_
        refine zv_iaload C dX9_sweeps_329 hL.2.2.2.2.2.1 ⟨by omega, by omega⟩ ?_
        simp (disch := omega) only [zsA_ne, zsA_eq]
        rw [if_pos (by omega)] at gv
        refine zv_iadd C dX9_sweeps_330 ⟨by omega, by omega⟩ ?_
        refine zv_iastore C dX9_sweeps_331 hL.2.2.2.2.2.2.2.2.2.2.2.2.1 ⟨by omega, by omega⟩ ?_
        first | (rw [zsA_zsA, ← gv, show zS g k + g k = zS g (k + 1) from rfl]) | (rw [if_neg (by omega)] at gv; rw [show zS g k = zS g (k + 1) from by show _ = zS g k + g k; omega])
        refine zv_iinc_5 C dX9_sweeps_332 rfl rfl ⟨by omega, by omega⟩ ?_
        refine zv_goto C 296 dX9_sweeps_335 rfl ?_
        exact q

