set_option maxRecDepth 20000 in
theorem s_X4_spread {T : zTt} {FR : zFR} {AR : zAR} {FI : zFI} {AI : zAI} {Post : zPost} {B : Nat} {N : Int → Int} {nI nL : Nat} {o my more : Int} (hc : cLay T FR) (hB : bLay T FR B) (hK : bk FI AI B N) (hW : mW N nI nL) (gB : 14 ≤ B) (g0 : 0 ≤ o) (g1 : o < 3) (g2 : 0 ≤ more) (g3 : more ≤ 99999) (hD : ∀ t : Int, N 0 + 1 ≤ t → t < 40 → AI 6 t = mTax N nI o t ∧ AI 8 t = mDed N nI o t) (hp : ∀ (F : zFI) (A : zAI) (s : Nat), N 0 + 1 + s = 40 → cIv AI A FI F (mDed N nI o) (mCov N nI o my more) (N 1) (mP0 N nL o) (N 0 + 1) s → Post (zI 0) T FR AR F A) : zMet M_X4_spread [zR 5, zR B, zI o, zI my, zI more] T FR AR FI AI Post := by
  refine zMet.of [some (zR 5), some (zR B), some (zI o), some (zI my), some (zI more), none, none] rfl rfl rfl (fun G C => ?_)
  obtain ⟨k0, k1, k2, k3, k4, k5, k6, k7, k8⟩ := id hK
  obtain ⟨w0, w1, w2, w3, w4, w5, w6, w7, w8, w9⟩ := id hW
  have w5B : B ≠ 5 := by omega
  suffices lp2 : ∀ (d s : Nat) (F : zFI) (A : zAI) (a6 : Option zVal), N 0 + 1 + s + d = 40 → cIv AI A FI F (mDed N nI o) (mCov N nI o my more) (N 1) (mP0 N nL o) (N 0 + 1) s → zV G 102 [some (zR 5), some (zR B), some (zI o), some (zI my), some (zI more), some (zI (N 0 + 1 + s)), a6] [] T FR AR F A 0 0 from by
    suffices lp1 : ∀ (d : Nat) (k : Int) (a6 : Option zVal), k + d = 60 → 0 ≤ k → zV G 8 [some (zR 5), some (zR B), some (zI o), some (zI my), some (zI more), some (zI k), a6] [] T FR AR (zsF FI 5 8 (zbk (cLf N nL o) 0 (k - 1))) (zmap AI 13 0 k (cLf N nL o)) 0 0 from by
      refine zv_aload_n C dX4_spread_0 rfl rfl ?_
      refine zv_iconst C dX4_spread_1 rfl ?_
      refine zv_putI C dX4_spread_2 f_X4_70 hc.1 rfl ?_
      refine zv_iconst C dX4_spread_5 rfl ?_
      refine zv_istore_5 C dX4_spread_6 rfl rfl ?_
      have q := lp1 60 0 none (by omega) (by omega)
      rw [zmap_0, zbk_nil (by omega)] at q
      exact q
    intro d
    induction d with
    | zero =>
      intro k a6 hk hk0
      have ek : k = 60 := by omega
      subst ek
      rw [show (60 : Int) - 1 = 59 by decide, cLf_0 hW]
      refine zv_iload C dX4_spread_8 rfl ?_
      refine zv_aload_n C dX4_spread_10 rfl rfl ?_
      refine zv_getR C dX4_spread_11 f_X4_33 hc.1 rfl hc.2.2.2.2.2.2.2.2.2.2.2.2.2.2.2.2 ?_
      refine zv_alen C dX4_spread_14 hc.2.2.2.2.2.2.2.2.1 rfl (by decide) ?_
      refine zv_icmp_ge C 86 dX4_spread_15 rfl (fun h15 => ?_) (fun h15 => absurd h15 (by omega))
      refine zv_aload_n C dX4_spread_86 rfl rfl ?_
      refine zv_aload_n C dX4_spread_87 rfl rfl ?_
      refine zv_getI C dX4_spread_88 f_X4_70 hc.1 rfl ?_
      try simp (disch := omega) only [zsF_eq, zsF_ne]
      refine zv_putI C dX4_spread_91 f_X4_76 hc.1 rfl ?_
      refine zv_aload_n C dX4_spread_94 rfl rfl ?_
      refine zv_getI C dX4_spread_95 f_X4_63 hB.1 rfl ?_
      try simp (disch := omega) only [zsF_eq, zsF_ne]
      try rw [zsF_ne (Or.inl w5B), zsF_ne (Or.inl w5B)]
      rw [k0]
      refine zv_iconst C dX4_spread_98 rfl ?_
      refine zv_iadd C dX4_spread_99 ⟨by omega, by omega⟩ ?_
      refine zv_istore_5 C dX4_spread_100 rfl rfl ?_
      have q := lp2 (39 - N 0).toNat 0 (zsF (zsF FI 5 8 (mP0 N nL o 59)) 5 9 (mP0 N nL o 59)) (zmap AI 13 0 60 (cLf N nL o)) a6 (by omega) ⟨fun a ha => zmap_neF (by omega), fun o' j ha => ?_, fun j a b => ?_, fun l a b => ?_, ?_, fun r hr => absurd hr (by omega), fun j hj => ?_, ?_⟩
      · rw [show N 0 + 1 + ((0 : Nat) : Int) = N 0 + 1 by omega] at q
        exact q
      · rw [zsF_ne (by omega), zsF_ne (by omega)]
      · rw [zmap_in (by omega)]; exact (cLf_b hW o j).1
      · rw [show N 0 + 1 + ((0 : Nat) : Int) = N 0 + 1 by omega] at a ⊢
        rw [zbk_congr (L := cLf N nL o) (fun j c d => zmap_in (by omega))]
        exact cLf_P0 hW o l a b
      · rw [zsF_ne (by decide), zsF_eq]
        rfl
      · rw [zmap_neF (by decide)]
      · rw [zsF_eq]
        show _ = _ + (0 : Int)
        omega
    | succ d ih =>
      intro k a6 hk hk0
      have lb := cLf_b hW o k
      have sb : 0 ≤ zbk (cLf N nL o) 0 (k - 1) := zbk_nn (fun j _ _ => (cLf_b hW o j).1)
      have sb2 : zbk (cLf N nL o) 0 (k - 1) ≤ 30000000 * 60 := zbk_ub (by omega) (by omega) (by omega) (fun j _ _ => (cLf_b hW o j).2)
      have hKx : bk (zsF FI 5 8 (zbk (cLf N nL o) 0 (k - 1))) (zmap AI 13 0 k (cLf N nL o)) B N := bk_fr hK (fun j _ _ => zsF_ne (Or.inl w5B)) (fun a _ _ => zmap_neF (by omega))
      have q := fun a => ih (k + 1) a (by omega) (by omega)
      rw [show k + 1 - 1 = k by omega, zbk_tl (by omega)] at q
      refine zv_iload C dX4_spread_8 rfl ?_
      refine zv_aload_n C dX4_spread_10 rfl rfl ?_
      refine zv_getR C dX4_spread_11 f_X4_33 hc.1 rfl hc.2.2.2.2.2.2.2.2.2.2.2.2.2.2.2.2 ?_
      refine zv_alen C dX4_spread_14 hc.2.2.2.2.2.2.2.2.1 rfl (by decide) ?_
      refine zv_icmp_ge C 86 dX4_spread_15 rfl (fun h15 => absurd h15 (by omega)) (fun h15 => ?_)
      refine zv_iload C dX4_spread_18 rfl ?_
      refine zv_aload_n C dX4_spread_20 rfl rfl ?_
      refine zv_getI C dX4_spread_21 f_X4_63 hB.1 rfl ?_
      rw [zsF_ne (Or.inl w5B), k0]
      refine zv_icmp_le C 38 dX4_spread_24 rfl (fun h24 => ?_) (fun h24 => ?_)
      · refine zv_iconst C dX4_spread_38 rfl ?_
        refine zv_istore_6 C dX4_spread_39 rfl rfl ?_
        refine zv_aload_n C dX4_spread_41 rfl rfl ?_
        refine zv_getR C dX4_spread_42 f_X4_33 hc.1 rfl hc.2.2.2.2.2.2.2.2.2.2.2.2.2.2.2.2 ?_
        refine zv_iload C dX4_spread_45 rfl ?_
        refine zv_iload C dX4_spread_47 rfl ?_
        refine zv_if_eq C 62 dX4_spread_49 rfl (fun _ => ?_) (fun h => absurd h (by omega))
        refine zv_iconst C dX4_spread_62 rfl ?_
        refine zv_top (y := cLf N nL o k) (by unfold cLf; first | (rw [if_pos ⟨by omega, by omega⟩]) | (rw [if_neg (by omega)])) ?_
        refine zv_iastore C dX4_spread_63 hc.2.2.2.2.2.2.2.2.1 ⟨by omega, by omega⟩ ?_
        rw [zmap_step (by omega) rfl]
        refine zv_aload_n C dX4_spread_64 rfl rfl ?_
        refine zv_dup C dX4_spread_65 rfl ?_
        refine zv_getI C dX4_spread_66 f_X4_70 hc.1 rfl ?_
        try rw [zsF_eq]
        refine zv_aload_n C dX4_spread_69 rfl rfl ?_
        refine zv_getR C dX4_spread_70 f_X4_33 hc.1 rfl hc.2.2.2.2.2.2.2.2.2.2.2.2.2.2.2.2 ?_
        refine zv_iload C dX4_spread_73 rfl ?_
        refine zv_iaload C dX4_spread_75 hc.2.2.2.2.2.2.2.2.1 ⟨by omega, by omega⟩ ?_
        rw [zmap_in ⟨by omega, by omega⟩]
        refine zv_iadd C dX4_spread_76 ⟨by omega, by omega⟩ ?_
        refine zv_putI C dX4_spread_77 f_X4_70 hc.1 rfl ?_
        rw [zsF_zsF]
        refine zv_iinc_5 C dX4_spread_80 rfl rfl ⟨by omega, by omega⟩ ?_
        refine zv_goto C 8 dX4_spread_83 rfl ?_
        exact q _
      · refine zv_iload C dX4_spread_27 rfl ?_
        refine zv_bipush C dX4_spread_29 rfl ?_
        refine zv_icmp_ge C 38 dX4_spread_31 rfl (fun h31 => ?_) (fun h31 => ?_)
        · refine zv_iconst C dX4_spread_38 rfl ?_
          refine zv_istore_6 C dX4_spread_39 rfl rfl ?_
          refine zv_aload_n C dX4_spread_41 rfl rfl ?_
          refine zv_getR C dX4_spread_42 f_X4_33 hc.1 rfl hc.2.2.2.2.2.2.2.2.2.2.2.2.2.2.2.2 ?_
          refine zv_iload C dX4_spread_45 rfl ?_
          refine zv_iload C dX4_spread_47 rfl ?_
          refine zv_if_eq C 62 dX4_spread_49 rfl (fun _ => ?_) (fun h => absurd h (by omega))
          refine zv_iconst C dX4_spread_62 rfl ?_
          refine zv_top (y := cLf N nL o k) (by unfold cLf; first | (rw [if_pos ⟨by omega, by omega⟩]) | (rw [if_neg (by omega)])) ?_
          refine zv_iastore C dX4_spread_63 hc.2.2.2.2.2.2.2.2.1 ⟨by omega, by omega⟩ ?_
          rw [zmap_step (by omega) rfl]
          refine zv_aload_n C dX4_spread_64 rfl rfl ?_
          refine zv_dup C dX4_spread_65 rfl ?_
          refine zv_getI C dX4_spread_66 f_X4_70 hc.1 rfl ?_
          try simp (disch := omega) only [zsF_eq, zsF_ne]
          try rw [zsF_eq]
          refine zv_aload_n C dX4_spread_69 rfl rfl ?_
          refine zv_getR C dX4_spread_70 f_X4_33 hc.1 rfl hc.2.2.2.2.2.2.2.2.2.2.2.2.2.2.2.2 ?_
          refine zv_iload C dX4_spread_73 rfl ?_
          refine zv_iaload C dX4_spread_75 hc.2.2.2.2.2.2.2.2.1 ⟨by omega, by omega⟩ ?_
          rw [zmap_in ⟨by omega, by omega⟩]
          refine zv_iadd C dX4_spread_76 ⟨by omega, by omega⟩ ?_
          refine zv_putI C dX4_spread_77 f_X4_70 hc.1 rfl ?_
          rw [zsF_zsF]
          refine zv_iinc_5 C dX4_spread_80 rfl rfl ⟨by omega, by omega⟩ ?_
          refine zv_goto C 8 dX4_spread_83 rfl ?_
          exact q _
        · refine zv_iconst C dX4_spread_34 rfl ?_
          refine zv_goto C 39 dX4_spread_35 rfl ?_
          refine zv_istore_6 C dX4_spread_39 rfl rfl ?_
          refine zv_aload_n C dX4_spread_41 rfl rfl ?_
          refine zv_getR C dX4_spread_42 f_X4_33 hc.1 rfl hc.2.2.2.2.2.2.2.2.2.2.2.2.2.2.2.2 ?_
          refine zv_iload C dX4_spread_45 rfl ?_
          refine zv_iload C dX4_spread_47 rfl ?_
          refine zv_if_eq C 62 dX4_spread_49 rfl (fun h => absurd h (by omega)) (fun _ => ?_)
          refine zv_aload_n C dX4_spread_52 rfl rfl ?_
          refine zv_iload_n C dX4_spread_53 rfl ?_
          refine zv_iload C dX4_spread_54 rfl ?_
          refine zv_cVi0_2 C dX4_spread_56 k_X2_leftWithLast l_X4_73 hB.1 rfl ⟨Nat.le_of_ble_eq_true rfl, Nat.le_of_ble_eq_true rfl⟩ ⟨rfl, rfl⟩ ⟨Nat.le_of_ble_eq_true rfl, Nat.le_of_ble_eq_true rfl⟩ rfl rfl ?_
          refine s_X2_leftWithLast hB hKx hW ?_
          refine zv_goto C 63 dX4_spread_59 rfl ?_
          refine zv_top (y := cLf N nL o k) (by unfold cLf; first | (rw [if_pos ⟨by omega, by omega⟩]) | (rw [if_neg (by omega)])) ?_
          refine zv_iastore C dX4_spread_63 hc.2.2.2.2.2.2.2.2.1 ⟨by omega, by omega⟩ ?_
          rw [zmap_step (by omega) rfl]
          refine zv_aload_n C dX4_spread_64 rfl rfl ?_
          refine zv_dup C dX4_spread_65 rfl ?_
          refine zv_getI C dX4_spread_66 f_X4_70 hc.1 rfl ?_
          try simp (disch := omega) only [zsF_eq, zsF_ne]
          try rw [zsF_eq]
          refine zv_aload_n C dX4_spread_69 rfl rfl ?_
          refine zv_getR C dX4_spread_70 f_X4_33 hc.1 rfl hc.2.2.2.2.2.2.2.2.2.2.2.2.2.2.2.2 ?_
          refine zv_iload C dX4_spread_73 rfl ?_
          refine zv_iaload C dX4_spread_75 hc.2.2.2.2.2.2.2.2.1 ⟨by omega, by omega⟩ ?_
          rw [zmap_in ⟨by omega, by omega⟩]
          refine zv_iadd C dX4_spread_76 ⟨by omega, by omega⟩ ?_
          refine zv_putI C dX4_spread_77 f_X4_70 hc.1 rfl ?_
          rw [zsF_zsF]
          refine zv_iinc_5 C dX4_spread_80 rfl rfl ⟨by omega, by omega⟩ ?_
          refine zv_goto C 8 dX4_spread_83 rfl ?_
          exact q _
  intro d
  induction d with
  | zero =>
    intro s F A a6 hd hI
    refine zv_iload C dX4_spread_102 rfl ?_
    refine zv_bipush C dX4_spread_104 rfl ?_
    refine zv_icmp_ge C 192 dX4_spread_106 rfl (fun h106 => ?_) (fun h106 => absurd h106 (by omega))
    refine zv_return C dX4_spread_192 rfl rfl rfl ?_
    exact hp F A s (by omega) hI
  | succ d ih =>
    intro s F A a6 hd hI
    obtain ⟨i1, i2, i3, i4, i5, i6, i7, i8⟩ := id hI
    have hK2 : bk F A B N := bk_fr hK (fun j _ _ => i2 B j (Or.inl w5B)) (fun a _ _ => i1 a (by omega))
    obtain ⟨j0, j1, j2, j3, j4, j5, j6, j7, j8⟩ := id hK2
    have hD1 := hD (N 0 + 1 + s) (by omega) (by omega)
    have tb := mTax_b hW o (N 0 + 1 + s)
    have db := mDed_b hW o (N 0 + 1 + s)
    have pb := (w7 o (N 0 + 1 + s) g0 g1 (by omega) (by omega)).2
    have cb := mCov_b hW (yr := my) (t := N 0 + 1 + s) g0 g1 g2 g3 (by omega) (by omega)
    have mo := zPf_mo (ded := mDed N nI o) (cov := mCov N nI o my more) (c := N 1) (mP0_mo hW o) s (fun r hr => (mDed_b hW o _).1)
    have p59 := mo.1 59 (by omega)
    have pub := zPf_ub (ded := mDed N nI o) (cov := mCov N nI o my more) (c := N 1) (mP0_mo hW o) (mP0_b hW o) s (fun r hr => ⟨(mDed_b hW o _).1, by have := (mDed_b hW o (N 0 + 1 + r)).2; omega, (mCov_b hW (yr := my) g0 g1 g2 g3 (by omega) (by omega)).1⟩) 59 (by omega) (by omega)
    have bb : ∀ j : Int, N 0 + 1 + s ≤ j → j ≤ 59 → 0 ≤ A 13 j ∧ A 13 j ≤ 300000000 := fun j a b => by
      have q1 := i3 j a b
      have q2 := zbk_term (L := A 13) (t := N 0 + 1 + s) (l := 59) i3 a b
      rw [i4 59 (by omega) (by omega)] at q2
      omega
    have ut : ∀ i : Int, 0 ≤ i → i < s → -3199968 ≤ mDed N nI o (N 0 + 1 + i) - (min (mDed N nI o (N 0 + 1 + i)) (mCov N nI o my more (N 0 + 1 + i)) + zUL (mDed N nI o) (mCov N nI o my more) (N 1) (mP0 N nL o) (N 0 + 1) i.toNat) ∧ mDed N nI o (N 0 + 1 + i) - (min (mDed N nI o (N 0 + 1 + i)) (mCov N nI o my more (N 0 + 1 + i)) + zUL (mDed N nI o) (mCov N nI o my more) (N 1) (mP0 N nL o) (N 0 + 1) i.toNat) ≤ 2999970 := fun i a b => by
      have u := mU_b hW (yr := my) (more := more) (r := i.toNat) g0 g1 g2 g3 (by omega)
      rw [mU_at, Int.toNat_of_nonneg a] at u
      have cb := mCov_b hW (yr := my) (t := N 0 + 1 + i) g0 g1 g2 g3 (by omega) (by omega)
      have db := mDed_b hW o (N 0 + 1 + i)
      omega
    have u1 := zS_lb _ (fun i a b => (ut i a b).1)
    have u2 := zS_ub _ (fun i a b => (ut i a b).2)
    rw [← Int.add_sub_cancel (zS _ _) (mP0 N nL o 59), Int.add_comm (zS _ _), ← i8] at u1 u2
    have p0b := mP0_b hW o 59 (by omega) (by omega)
    have p00 := (mP0_mo hW o).1 59 (by omega)
    refine zv_iload C dX4_spread_102 rfl ?_
    refine zv_bipush C dX4_spread_104 rfl ?_
    refine zv_icmp_ge C 192 dX4_spread_106 rfl (fun h106 => absurd h106 (by omega)) (fun h106 => ?_)
    refine zv_aload_n C dX4_spread_109 rfl rfl ?_
    refine zv_getR C dX4_spread_110 f_X4_15 hc.1 rfl hc.2.2.2.2.2.2.2.2.2.2.1 ?_
    refine zv_iload C dX4_spread_113 rfl ?_
    refine zv_aload_n C dX4_spread_115 rfl rfl ?_
    refine zv_getR C dX4_spread_116 f_X4_9 hc.1 rfl hc.2.2.2.2.2.2.2.2.2.1 ?_
    refine zv_iload C dX4_spread_119 rfl ?_
    refine zv_iaload C dX4_spread_121 hc.2.1 ⟨by omega, by omega⟩ ?_
    rw [i1 6 (by decide), hD1.1]
    refine zv_aload_n C dX4_spread_122 rfl rfl ?_
    refine zv_getR C dX4_spread_123 f_X4_79 hB.1 rfl hB.2.2.2.2.2.2.1 ?_
    refine zv_iload_n C dX4_spread_126 rfl ?_
    refine zv_bipush C dX4_spread_127 rfl ?_
    refine zv_imul C dX4_spread_129 ⟨by omega, by omega⟩ ?_
    refine zv_iload C dX4_spread_130 rfl ?_
    refine zv_iadd C dX4_spread_132 ⟨by omega, by omega⟩ ?_
    refine zv_iaload C dX4_spread_133 hB.2.2.1 ⟨by omega, by omega⟩ ?_
    rw [j6 o (N 0 + 1 + s) g0 g1 (by omega) (by omega)]
    refine zv_iadd C dX4_spread_134 ⟨by omega, by omega⟩ ?_
    refine zv_iload C dX4_spread_135 rfl ?_
    refine zv_iload_n C dX4_spread_137 rfl ?_
    refine zv_icmp_ne C 146 dX4_spread_138 rfl (fun h138 => ?_) (fun h138 => ?_)
    · refine zv_iconst C dX4_spread_146 rfl ?_
      refine zv_iadd C dX4_spread_147 ⟨by omega, by omega⟩ ?_
      refine zv_top (y := mCov N nI o my more (N 0 + 1 + s)) (by unfold mCov; first | (rw [if_pos (by omega)]) | (rw [if_neg (by omega)])) ?_
      refine zv_iastore C dX4_spread_148 hc.2.2.1 ⟨by omega, by omega⟩ ?_
      refine zv_aload_n C dX4_spread_149 rfl rfl ?_
      refine zv_iload C dX4_spread_150 rfl ?_
      refine zv_iload C dX4_spread_152 rfl ?_
      refine zv_aload_n C dX4_spread_154 rfl rfl ?_
      refine zv_getI C dX4_spread_155 f_X4_82 hB.1 rfl ?_
      rw [j1]
      refine zv_iadd C dX4_spread_158 ⟨by omega, by omega⟩ ?_
      generalize hA2 : zsA A 7 (N 0 + 1 + s) (mCov N nI o my more (N 0 + 1 + s)) = A2
      have a7 : A2 7 (N 0 + 1 + s) = mCov N nI o my more (N 0 + 1 + s) := by rw [← hA2, zsA_eq]
      have a8 : A2 8 (N 0 + 1 + s) = mDed N nI o (N 0 + 1 + s) := by rw [← hA2, zsA_ne (by decide), i1 8 (by decide), hD1.2]
      have a13 : A2 13 = A 13 := by rw [← hA2, zsA_neF (by decide)]
      refine zv_cVv0_2 C dX4_spread_159 k_X4_coverYear l_X4_85 hc.1 rfl ⟨Nat.le_of_ble_eq_true rfl, Nat.le_of_ble_eq_true rfl⟩ ⟨rfl, rfl⟩ ⟨Nat.le_of_ble_eq_true rfl, Nat.le_of_ble_eq_true rfl⟩ rfl rfl ?_
      refine s_X4_coverYear hc (by omega) (by omega) (by omega) (by omega) (by rw [a8]; omega) (by rw [a7]; omega) (by omega) (by rw [a13]; exact bb) (fun L1 h1 h2 => ?_)
      rw [a7, a8] at h1 ⊢
      rw [a13] at h1 h2
      generalize hst : F 5 8 + (mDed N nI o (N 0 + 1 + s) - min (mDed N nI o (N 0 + 1 + s)) (mCov N nI o my more (N 0 + 1 + s)) - min (F 5 8) (mCov N nI o my more (N 0 + 1 + s) - min (mDed N nI o (N 0 + 1 + s)) (mCov N nI o my more (N 0 + 1 + s))) - zu1 L1 (N 0 + 1 + s + N 1) (L1 (N 0 + 1 + s + N 1) + (mDed N nI o (N 0 + 1 + s) - min (mDed N nI o (N 0 + 1 + s)) (mCov N nI o my more (N 0 + 1 + s)))) (N 0 + 1 + s)) = st
      refine zv_aload_n C dX4_spread_162 rfl rfl ?_
      refine zv_dup C dX4_spread_163 rfl ?_
      refine zv_getI C dX4_spread_164 f_X4_76 hc.1 rfl ?_
      try simp (disch := omega) only [zsF_eq, zsF_ne]
      refine zv_aload_n C dX4_spread_167 rfl rfl ?_
      refine zv_getR C dX4_spread_168 f_X4_18 hc.1 rfl hc.2.2.2.2.2.2.2.2.2.2.2.1 ?_
      refine zv_iload C dX4_spread_171 rfl ?_
      refine zv_iaload C dX4_spread_173 hc.2.2.2.1 ⟨by omega, by omega⟩ ?_
      try simp (disch := omega) only [zrow_eq, zrow_ne, zsA_eq, zsA_ne]
      rw [a8]
      refine zv_aload_n C dX4_spread_174 rfl rfl ?_
      refine zv_getR C dX4_spread_175 f_X4_24 hc.1 rfl hc.2.2.2.2.2.2.2.2.2.2.2.2.2.1 ?_
      refine zv_iload C dX4_spread_178 rfl ?_
      refine zv_iaload C dX4_spread_180 hc.2.2.2.2.2.1 ⟨by omega, by omega⟩ ?_
      try simp (disch := omega) only [zrow_eq, zrow_ne, zsA_eq, zsA_ne]
      refine zv_isub C dX4_spread_181 ⟨by omega, by omega⟩ ?_
      refine zv_iadd C dX4_spread_182 ⟨by omega, by omega⟩ ?_
      refine zv_putI C dX4_spread_183 f_X4_76 hc.1 rfl ?_
      refine zv_iinc_5 C dX4_spread_186 rfl rfl ⟨by omega, by omega⟩ ?_
      refine zv_goto C 102 dX4_spread_189 rfl ?_
      have q := ih (s + 1) (zsF (zsF F 5 8 st) 5 9 (F 5 9 + (mDed N nI o (N 0 + 1 + s) - (min (mDed N nI o (N 0 + 1 + s)) (mCov N nI o my more (N 0 + 1 + s)) + min (F 5 8) (mCov N nI o my more (N 0 + 1 + s) - min (mDed N nI o (N 0 + 1 + s)) (mCov N nI o my more (N 0 + 1 + s))))))) _ a6 (by omega) (cIv_step hI (by omega) (by omega) (by omega) (by omega) mo (by omega) h1 h2 (by omega) hst.symm rfl (A1 := zsA (zrow (zsA (zsA A2 9 (N 0 + 1 + s) (min (mDed N nI o (N 0 + 1 + s)) (mCov N nI o my more (N 0 + 1 + s)))) 10 (N 0 + 1 + s) (min (mDed N nI o (N 0 + 1 + s)) (mCov N nI o my more (N 0 + 1 + s)) + min (F 5 8) (mCov N nI o my more (N 0 + 1 + s) - min (mDed N nI o (N 0 + 1 + s)) (mCov N nI o my more (N 0 + 1 + s))))) 13 (zu1 L1 (N 0 + 1 + s + N 1) (L1 (N 0 + 1 + s + N 1) + (mDed N nI o (N 0 + 1 + s) - min (mDed N nI o (N 0 + 1 + s)) (mCov N nI o my more (N 0 + 1 + s)))))) 11 (N 0 + 1 + s) st) ?_ ?_ ?_ ?_ ?_ ?_ ?_ ?_ ?_)
      · rw [show N 0 + 1 + ((s + 1 : Nat) : Int) = N 0 + 1 + s + 1 by omega] at q
        exact q
      · intro a ha
        rw [zsA_neF (by omega), zrow_neF (by omega), zsA_neF (by omega), zsA_neF (by omega), ← hA2, zsA_neF (by omega)]
      · intro o' j ha
        rw [zsF_ne (by omega), zsF_ne (by omega)]
      · rw [zsA_neF (by decide), zrow_neF (by decide), zsA_neF (by decide), zsA_neF (by decide), ← hA2, zsA_eqF]
      · rw [zsA_neF (by decide), zrow_neF (by decide), zsA_neF (by decide), zsA_eqF, ← hA2, zsA_neF (by decide)]
      · rw [zsA_neF (by decide), zrow_neF (by decide), zsA_eqF, zsA_neF (by decide), ← hA2, zsA_neF (by decide)]
      · rw [zsA_eqF, zrow_neF (by decide), zsA_neF (by decide), zsA_neF (by decide), ← hA2, zsA_neF (by decide)]
      · rw [zsA_neF (by decide), zrow_eqF]
      · rw [zsF_ne (by decide), zsF_eq]
      · rw [zsF_eq]
    · refine zv_iload C dX4_spread_141 rfl ?_
      refine zv_goto C 147 dX4_spread_143 rfl ?_
      refine zv_iadd C dX4_spread_147 ⟨by omega, by omega⟩ ?_
      refine zv_top (y := mCov N nI o my more (N 0 + 1 + s)) (by unfold mCov; first | (rw [if_pos (by omega)]) | (rw [if_neg (by omega)])) ?_
      refine zv_iastore C dX4_spread_148 hc.2.2.1 ⟨by omega, by omega⟩ ?_
      refine zv_aload_n C dX4_spread_149 rfl rfl ?_
      refine zv_iload C dX4_spread_150 rfl ?_
      refine zv_iload C dX4_spread_152 rfl ?_
      refine zv_aload_n C dX4_spread_154 rfl rfl ?_
      refine zv_getI C dX4_spread_155 f_X4_82 hB.1 rfl ?_
      try simp (disch := omega) only [zsF_eq, zsF_ne]
      rw [j1]
      refine zv_iadd C dX4_spread_158 ⟨by omega, by omega⟩ ?_
      generalize hA2 : zsA A 7 (N 0 + 1 + s) (mCov N nI o my more (N 0 + 1 + s)) = A2
      have a7 : A2 7 (N 0 + 1 + s) = mCov N nI o my more (N 0 + 1 + s) := by rw [← hA2, zsA_eq]
      have a8 : A2 8 (N 0 + 1 + s) = mDed N nI o (N 0 + 1 + s) := by rw [← hA2, zsA_ne (by decide), i1 8 (by decide), hD1.2]
      have a13 : A2 13 = A 13 := by rw [← hA2, zsA_neF (by decide)]
      refine zv_cVv0_2 C dX4_spread_159 k_X4_coverYear l_X4_85 hc.1 rfl ⟨Nat.le_of_ble_eq_true rfl, Nat.le_of_ble_eq_true rfl⟩ ⟨rfl, rfl⟩ ⟨Nat.le_of_ble_eq_true rfl, Nat.le_of_ble_eq_true rfl⟩ rfl rfl ?_
      refine s_X4_coverYear hc (by omega) (by omega) (by omega) (by omega) (by rw [a8]; omega) (by rw [a7]; omega) (by omega) (by rw [a13]; exact bb) (fun L1 h1 h2 => ?_)
      rw [a7, a8] at h1 ⊢
      rw [a13] at h1 h2
      generalize hst : F 5 8 + (mDed N nI o (N 0 + 1 + s) - min (mDed N nI o (N 0 + 1 + s)) (mCov N nI o my more (N 0 + 1 + s)) - min (F 5 8) (mCov N nI o my more (N 0 + 1 + s) - min (mDed N nI o (N 0 + 1 + s)) (mCov N nI o my more (N 0 + 1 + s))) - zu1 L1 (N 0 + 1 + s + N 1) (L1 (N 0 + 1 + s + N 1) + (mDed N nI o (N 0 + 1 + s) - min (mDed N nI o (N 0 + 1 + s)) (mCov N nI o my more (N 0 + 1 + s)))) (N 0 + 1 + s)) = st
      refine zv_aload_n C dX4_spread_162 rfl rfl ?_
      refine zv_dup C dX4_spread_163 rfl ?_
      refine zv_getI C dX4_spread_164 f_X4_76 hc.1 rfl ?_
      try simp (disch := omega) only [zsF_eq, zsF_ne]
      try simp (disch := omega) only [zsF_eq, zsF_ne]
      refine zv_aload_n C dX4_spread_167 rfl rfl ?_
      refine zv_getR C dX4_spread_168 f_X4_18 hc.1 rfl hc.2.2.2.2.2.2.2.2.2.2.2.1 ?_
      refine zv_iload C dX4_spread_171 rfl ?_
      refine zv_iaload C dX4_spread_173 hc.2.2.2.1 ⟨by omega, by omega⟩ ?_
      try simp (disch := omega) only [zrow_eq, zrow_ne, zsA_eq, zsA_ne]
      rw [a8]
      refine zv_aload_n C dX4_spread_174 rfl rfl ?_
      refine zv_getR C dX4_spread_175 f_X4_24 hc.1 rfl hc.2.2.2.2.2.2.2.2.2.2.2.2.2.1 ?_
      refine zv_iload C dX4_spread_178 rfl ?_
      refine zv_iaload C dX4_spread_180 hc.2.2.2.2.2.1 ⟨by omega, by omega⟩ ?_
      try simp (disch := omega) only [zrow_eq, zrow_ne, zsA_eq, zsA_ne]
      refine zv_isub C dX4_spread_181 ⟨by omega, by omega⟩ ?_
      refine zv_iadd C dX4_spread_182 ⟨by omega, by omega⟩ ?_
      refine zv_putI C dX4_spread_183 f_X4_76 hc.1 rfl ?_
      refine zv_iinc_5 C dX4_spread_186 rfl rfl ⟨by omega, by omega⟩ ?_
      refine zv_goto C 102 dX4_spread_189 rfl ?_
      have q := ih (s + 1) (zsF (zsF F 5 8 st) 5 9 (F 5 9 + (mDed N nI o (N 0 + 1 + s) - (min (mDed N nI o (N 0 + 1 + s)) (mCov N nI o my more (N 0 + 1 + s)) + min (F 5 8) (mCov N nI o my more (N 0 + 1 + s) - min (mDed N nI o (N 0 + 1 + s)) (mCov N nI o my more (N 0 + 1 + s))))))) _ a6 (by omega) (cIv_step hI (by omega) (by omega) (by omega) (by omega) mo (by omega) h1 h2 (by omega) hst.symm rfl (A1 := zsA (zrow (zsA (zsA A2 9 (N 0 + 1 + s) (min (mDed N nI o (N 0 + 1 + s)) (mCov N nI o my more (N 0 + 1 + s)))) 10 (N 0 + 1 + s) (min (mDed N nI o (N 0 + 1 + s)) (mCov N nI o my more (N 0 + 1 + s)) + min (F 5 8) (mCov N nI o my more (N 0 + 1 + s) - min (mDed N nI o (N 0 + 1 + s)) (mCov N nI o my more (N 0 + 1 + s))))) 13 (zu1 L1 (N 0 + 1 + s + N 1) (L1 (N 0 + 1 + s + N 1) + (mDed N nI o (N 0 + 1 + s) - min (mDed N nI o (N 0 + 1 + s)) (mCov N nI o my more (N 0 + 1 + s)))))) 11 (N 0 + 1 + s) st) ?_ ?_ ?_ ?_ ?_ ?_ ?_ ?_ ?_)
      · rw [show N 0 + 1 + ((s + 1 : Nat) : Int) = N 0 + 1 + s + 1 by omega] at q
        exact q
      · intro a ha
        rw [zsA_neF (by omega), zrow_neF (by omega), zsA_neF (by omega), zsA_neF (by omega), ← hA2, zsA_neF (by omega)]
      · intro o' j ha
        rw [zsF_ne (by omega), zsF_ne (by omega)]
      · rw [zsA_neF (by decide), zrow_neF (by decide), zsA_neF (by decide), zsA_neF (by decide), ← hA2, zsA_eqF]
      · rw [zsA_neF (by decide), zrow_neF (by decide), zsA_neF (by decide), zsA_eqF, ← hA2, zsA_neF (by decide)]
      · rw [zsA_neF (by decide), zrow_neF (by decide), zsA_eqF, zsA_neF (by decide), ← hA2, zsA_neF (by decide)]
      · rw [zsA_eqF, zrow_neF (by decide), zsA_neF (by decide), zsA_neF (by decide), ← hA2, zsA_neF (by decide)]
      · rw [zsA_neF (by decide), zrow_eqF]
      · rw [zsF_ne (by decide), zsF_eq]
      · rw [zsF_eq]

