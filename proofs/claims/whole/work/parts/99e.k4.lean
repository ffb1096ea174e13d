/-- what the reading of a text may change in the class -/
def rdX (D : Nat) (FI F : zFI) (AI A : zAI) : Prop := (∀ o j, o ≠ 3 → o ≠ D → F o j = FI o j) ∧ ∀ a, a ≠ 4 → (a < D + 1 ∨ D + 4 < a) → A a = AI a
set_option maxRecDepth 20000 in
theorem s_X6_reads {T : zTt} {FR : zFR} {AR : zAR} {FI : zFI} {AI : zAI} {Post : zPost} {B D : Nat} {b : Int → Int} {n : Int} {N0 : Int → Int}  (hd : dLay T FR B D) (hD : bLay T FR D) (gD : 17 ≤ D) (hn : FI 1 1 = n) (hn0 : 0 ≤ n) (hn2 : n ≤ 640) (hb : ∀ j : Int, 0 ≤ j → j < n → AI 2 j % 256 = b j) (hz : ∀ j : Int, 0 ≤ j → j < 1395 → N0 j = 0) (h1 : ∀ (FR1 : zFR) (F1 : zFI) (A1 : zAI) (N : Int → Int) (L : Nat) (p : Int), (∀ o j, o ≠ 3 ∨ j = 0 → FR1 o j = FR o j) → rdX D FI F1 AI A1 → tRun b n N0 L N p → bk F1 A1 D N → 2 ≤ L → tK b n p = 1 → F1 3 7 = L → F1 3 8 = 0 → Post (zI 1) T FR1 AR F1 A1) (h0 : ∀ (FR1 : zFR) (F1 : zFI) (A1 : zAI) (N : Int → Int) (L : Nat) (p : Int), (∀ o j, o ≠ 3 ∨ j = 0 → FR1 o j = FR o j) → rdX D FI F1 AI A1 → tRun b n N0 L N p → lFault b n p N L (F1 3 8) (F1 3 6) → Post (zI 0) T FR1 AR F1 A1) : zMet M_X6_reads [zR 3, zR 1, zR D] T FR AR FI AI Post := by
  refine zMet.of [some (zR 3), some (zR 1), some (zR D), none, none] rfl rfl rfl (fun G C => ?_)
  refine zv_aload_n C dX6_reads_0 rfl rfl ?_
  refine zv_aload_n C dX6_reads_1 rfl rfl ?_
  refine zv_putP C dX6_reads_2 f_X6_15 hd.2.2.2.1 rfl ?_
  refine zv_aload_n C dX6_reads_5 rfl rfl ?_
  refine zv_aload_n C dX6_reads_6 rfl rfl ?_
  refine zv_putP C dX6_reads_7 f_X6_19 hd.2.2.2.1 rfl ?_
  suffices mn : ∀ FR1 : zFR, (∀ o j, o ≠ 3 ∨ j = 0 → FR1 o j = FR o j) → FR1 3 1 = some 1 → FR1 3 2 = some D → zV G 10 [some (zR 3), some (zR 1), some (zR D), none, none] [] T FR1 AR FI AI 0 0 from mn _ (fun o j h => by unfold zsR; rw [if_neg (by omega), if_neg (by omega)]) rfl rfl
  intro FR1 hFf hrt hrb
  have hd := dLay_fr hd hFf
  have hD := bLay_fr hD (fun j => hFf D j (by omega))
  suffices lp : ∀ (d L : Nat) (w : Option zVal) (F : zFI) (A : zAI) (N : Int → Int) (p : Int), L + d = 641 → rdX D FI F AI A → tRun b n N0 L N p → bk F A D N → F 3 3 = p → F 3 7 = L → F 3 8 = 0 → zV G 34 [some (zR 3), some (zR 1), some (zR D), some (zI (L : Int)), w] [] T FR1 AR F A 0 0 from by
    refine zv_aload_n C dX6_reads_10 rfl rfl ?_
    refine zv_getR C dX6_reads_11 f_X6_19 hd.2.2.2.1 rfl hrb ?_
    refine zv_cVv0_0 C dX6_reads_14 k_X2_clear l_X6_23 hD.1 rfl ⟨Nat.le_of_ble_eq_true rfl, Nat.le_of_ble_eq_true rfl⟩ ⟨rfl, rfl⟩ ⟨Nat.le_of_ble_eq_true rfl, Nat.le_of_ble_eq_true rfl⟩ rfl rfl ?_
    refine s_X2_clear hD hz (fun F0 A0 f0 kk => ?_)
    refine zv_aload_n C dX6_reads_17 rfl rfl ?_
    refine zv_iconst C dX6_reads_18 rfl ?_
    refine zv_putI C dX6_reads_19 f_X6_28 hd.2.2.2.1 rfl ?_
    refine zv_aload_n C dX6_reads_22 rfl rfl ?_
    refine zv_iconst C dX6_reads_23 rfl ?_
    refine zv_putI C dX6_reads_24 f_X6_32 hd.2.2.2.1 rfl ?_
    refine zv_aload_n C dX6_reads_27 rfl rfl ?_
    refine zv_iconst C dX6_reads_28 rfl ?_
    refine zv_putI C dX6_reads_29 f_X6_35 hd.2.2.2.1 rfl ?_
    refine zv_iconst C dX6_reads_32 rfl ?_
    refine zv_istore_3 C dX6_reads_33 rfl rfl ?_
    exact lp 641 0 none _ A0 N0 0 (by omega) ⟨fun o j a c => by rw [zsF_ne (by omega), zsF_ne (by omega), zsF_ne (by omega)]; exact f0.1 o j c, fun a _ c => f0.2 a c⟩ ⟨rfl, rfl⟩ (bk_setI (bk_setI (bk_setI kk (by omega)) (by omega)) (by omega)) (by rw [zsF_ne (by decide), zsF_ne (by decide), zsF_eq]) (by rw [zsF_ne (by decide), zsF_eq]; rfl) zsF_eq
  intro d
  induction d with
  | zero =>
    intro L w F A N p hLd hX hr hK h3 h7 h8
    have inv := tRun_inv hn0 hz L N p hr
    exfalso
    omega
  | succ d ih =>
    intro L w F A N p hLd hX hr hK h3 h7 h8
    obtain ⟨iT, i1, i2⟩ := tRun_inv hn0 hz L N p hr
    obtain ⟨t0, t1, t2, t3, t4, -⟩ := id iT
    have e11 : F 1 1 = n := (hX.1 1 1 (by omega) (by omega)).trans hn
    have hbb : ∀ q : Int, 0 ≤ q → q < n → A 2 q % 256 = b q := fun q q0 q1 => by rw [hX.2 2 (by omega) (by omega)]; exact hb q q0 q1
    refine zv_iload_n C dX6_reads_34 rfl ?_
    refine zv_sipush C dX6_reads_35 rfl ?_
    refine zv_icmp_gt C 131 dX6_reads_38 rfl (fun h38 => absurd h38 (by omega)) (fun h38 => ?_)
    refine zv_aload_n C dX6_reads_41 rfl rfl ?_
    refine zv_cVv0_0 C dX6_reads_42 k_X6_advance l_X6_40 hd.2.2.2.1 rfl ⟨Nat.le_of_ble_eq_true rfl, Nat.le_of_ble_eq_true rfl⟩ ⟨rfl, rfl⟩ ⟨Nat.le_of_ble_eq_true rfl, Nat.le_of_ble_eq_true rfl⟩ rfl rfl ?_
    refine s_X6_advance hd hrt e11 hn0 hn2 hbb (by omega) (by omega) (fun F1 f1 a1 => ?_)
    rw [h3] at a1
    have hX1 : rdX D FI F1 AI A := ⟨fun o j c1 c2 => (f1 o j (by omega)).trans (hX.1 o j c1 c2), hX.2⟩
    have hK1 : bk F1 A D N := bk_fr hK (fun j _ _ => f1 D j (by omega)) (fun _ _ _ => rfl)
    have l7 : F1 3 7 = L := (f1 3 7 (by omega)).trans h7
    have l8 : F1 3 8 = 0 := (f1 3 8 (by omega)).trans h8
    have e12 : F1 1 1 = n := (f1 1 1 (by omega)).trans e11
    suffices J63 : ¬ (tK b n p = 1 ∧ 2 ≤ (L : Int)) → zV G 63 [some (zR 3), some (zR 1), some (zR D), some (zI (L : Int)), w] [] T FR1 AR F1 A 0 0 from by
      refine zv_aload_n C dX6_reads_45 rfl rfl ?_
      refine zv_getI C dX6_reads_46 f_X6_43 hd.2.2.2.1 rfl ?_
      refine zv_iconst C dX6_reads_49 rfl ?_
      rw [a1.2.1]
      refine zv_icmp_ne C 63 dX6_reads_50 rfl (fun h50 => ?_) (fun h50 => ?_)
      · exact J63 (by omega)
      · refine zv_aload_n C dX6_reads_53 rfl rfl ?_
        refine zv_getI C dX6_reads_54 f_X6_32 hd.2.2.2.1 rfl ?_
        refine zv_iconst C dX6_reads_57 rfl ?_
        rw [l7]
        refine zv_icmp_lt C 63 dX6_reads_58 rfl (fun h58 => ?_) (fun h58 => ?_)
        · exact J63 (by omega)
        · refine zv_iconst C dX6_reads_61 rfl ?_
          refine zv_ireturn C dX6_reads_62 rfl rfl rfl rfl ?_
          exact h1 FR1 F1 A N L p hFf hX1 hr hK1 (by omega) (by omega) l7 l8
    intro hne
    refine zv_aload_n C dX6_reads_63 rfl rfl ?_
    refine zv_cVi0_0 C dX6_reads_64 k_X6_lineThatComes l_X6_46 hd.2.2.2.1 rfl ⟨Nat.le_of_ble_eq_true rfl, Nat.le_of_ble_eq_true rfl⟩ ⟨rfl, rfl⟩ ⟨Nat.le_of_ble_eq_true rfl, Nat.le_of_ble_eq_true rfl⟩ rfl rfl ?_
    refine s_X6_lineThatComes hd hrt e12 hn0 hn2 hbb hrb hD hK1 a1 (by omega) (by omega) t2 l7 (fun j ok => ?_) (fun no => ?_)
    · have k2w := ok.2.1.1
      have pn := tN_b (b := b) (n := n) (p := p) (by omega)
      have pg := tN_ge (b := b) (n := n) (p := p)
      refine zv_astore_4 C dX6_reads_67 rfl rfl rfl ?_
      refine zv_aload C dX6_reads_69 rfl rfl ?_
      refine zv_ifnonnullA C 80 dX6_reads_71 rfl ?_
      refine zv_aload_n C dX6_reads_80 rfl rfl ?_
      refine zv_aload C dX6_reads_81 rfl rfl ?_
      refine zv_cVi0_1 C dX6_reads_83 k2_X6_isOneMore l_X6_54 hd.2.2.2.1 rfl ⟨Nat.le_of_ble_eq_true rfl, Nat.le_of_ble_eq_true rfl⟩ ⟨rfl, rfl⟩ ⟨Nat.le_of_ble_eq_true rfl, Nat.le_of_ble_eq_true rfl⟩ rfl rfl ?_
      refine s_X6_isOneMore ok.1 hd hrb hD hK1 (by omega) (fun bf => ?_) (fun bf => ?_)
      · refine zv_if_eq C 95 dX6_reads_86 rfl (fun h => absurd h (by omega)) (fun _ => ?_)
        refine zv_aload_n C dX6_reads_89 rfl rfl ?_
        refine zv_iconst C dX6_reads_90 rfl ?_
        refine zv_cVi0_1 C dX6_reads_91 k_X6_refuse l_X6_50 hd.2.2.2.1 rfl ⟨Nat.le_of_ble_eq_true rfl, Nat.le_of_ble_eq_true rfl⟩ ⟨rfl, rfl⟩ ⟨Nat.le_of_ble_eq_true rfl, Nat.le_of_ble_eq_true rfl⟩ rfl rfl ?_
        refine s_X6_refuse hd ?_
        refine zv_ireturn C dX6_reads_94 rfl rfl rfl rfl ?_
        refine h0 FR1 _ A N L p hFf ⟨fun o j c1 c2 => (zsF_ne (by omega)).trans (hX1.1 o j c1 c2), hX1.2⟩ hr ?_
        rw [zsF_eq, zsF_ne (by decide), a1.1]
        exact lF_f ok bf
      · refine zv_if_eq C 95 dX6_reads_86 rfl (fun _ => ?_) (fun h => absurd h (by omega))
        refine zv_aload_n C dX6_reads_95 rfl rfl ?_
        refine zv_aload C dX6_reads_96 rfl rfl ?_
        refine zv_getfA (j := 10 + zSlo.getD j 0) C dX6_reads_98 fs_X6_58 (zOF_slots ok.1) ?_
        refine zv_cVi0_1 C dX6_reads_101 k_X6_readsNumbers l_X6_64 hd.2.2.2.1 rfl ⟨Nat.le_of_ble_eq_true rfl, Nat.le_of_ble_eq_true rfl⟩ ⟨rfl, rfl⟩ ⟨Nat.le_of_ble_eq_true rfl, Nat.le_of_ble_eq_true rfl⟩ rfl rfl ?_
        refine s_X6_readsNumbers hd hrt e12 hn0 hn2 hbb hrb hD gD ok.1 hK1.2.2.1 t2 (a1.2.2.1 (by omega)) (by omega) pn (fun F2 A2 f2 a2 gd hv v3 => ?_) (fun F2 A2 f2 bd => ?_)
        · refine zv_if_ne C 109 dX6_reads_104 rfl (fun _ => ?_) (fun h => absurd h (by omega))
          refine zv_aload_n C dX6_reads_109 rfl rfl ?_
          refine zv_aload C dX6_reads_110 rfl rfl ?_
          have hK2 : bk F2 A2 D N := bk_fr hK1 (fun j _ _ => f2 D j (by omega)) (fun a c _ => a2 a (by omega))
          refine zv_cVv0_1 C dX6_reads_112 k_X6_enter l_X6_68 hd.2.2.2.1 rfl ⟨Nat.le_of_ble_eq_true rfl, Nat.le_of_ble_eq_true rfl⟩ ⟨rfl, rfl⟩ ⟨Nat.le_of_ble_eq_true rfl, Nat.le_of_ble_eq_true rfl⟩ rfl rfl ?_
          refine s_X6_enter ok.1 hd hrb hD hK2 iT bf hv (fun k hk => (gd.1 k hk).2) (fun F3 A3 f3 kk => ?_)
          have l73 : F3 3 7 = L := (f3.1 3 7 (by omega)).trans ((f2 3 7 (by omega)).trans l7)
          refine zv_aload_n C dX6_reads_115 rfl rfl ?_
          refine zv_dup C dX6_reads_116 rfl ?_
          refine zv_getI C dX6_reads_117 f_X6_32 hd.2.2.2.1 rfl ?_
          refine zv_iconst C dX6_reads_120 rfl ?_
          rw [l73]
          refine zv_iadd C dX6_reads_121 ⟨by omega, by omega⟩ ?_
          refine zv_putI C dX6_reads_122 f_X6_32 hd.2.2.2.1 rfl ?_
          refine zv_iinc_3 C dX6_reads_125 rfl rfl ⟨by omega, by omega⟩ ?_
          refine zv_goto C 34 dX6_reads_128 rfl ?_
          refine ih (L + 1) _ _ A3 _ _ (by omega) ⟨fun o j c1 c2 => ?_, fun a c1 c2 => ?_⟩ ⟨N, p, hr, j, ok, bf, gd, rfl, rfl⟩ (bk_setI kk (by omega)) ?_ ?_ ?_
          · rw [zsF_ne (by omega), f3.1 o j c2, f2 o j (by omega)]; exact hX1.1 o j c1 c2
          · rw [f3.2 a c2, a2 a c1]; exact hX1.2 a c1 c2
          · rw [zsF_ne (by decide), f3.1 3 3 (by omega)]; exact v3
          · rw [zsF_eq]; omega
          · rw [zsF_ne (by decide), f3.1 3 8 (by omega), f2 3 8 (by omega)]; exact l8
        · refine zv_if_ne C 109 dX6_reads_104 rfl (fun h => absurd h (by omega)) (fun _ => ?_)
          refine zv_iconst C dX6_reads_107 rfl ?_
          refine zv_ireturn C dX6_reads_108 rfl rfl rfl rfl ?_
          refine h0 FR1 _ A2 N L p hFf ⟨fun o j c1 c2 => (f2.1 o j (by omega)).trans (hX1.1 o j c1 c2), fun a c1 c2 => (f2.2 a c1).trans (hX1.2 a c1 c2)⟩ hr ?_
          exact lF_s ok bf bd
    · refine zv_astore_4 C dX6_reads_67 rfl rfl rfl ?_
      refine zv_aload C dX6_reads_69 rfl rfl ?_
      refine zv_ifnonnull C 80 dX6_reads_71 rfl (fun a h => by cases h) (fun _ => ?_)
      refine zv_aload_n C dX6_reads_74 rfl rfl ?_
      refine zv_iconst C dX6_reads_75 rfl ?_
      refine zv_cVi0_1 C dX6_reads_76 k_X6_refuse l_X6_50 hd.2.2.2.1 rfl ⟨Nat.le_of_ble_eq_true rfl, Nat.le_of_ble_eq_true rfl⟩ ⟨rfl, rfl⟩ ⟨Nat.le_of_ble_eq_true rfl, Nat.le_of_ble_eq_true rfl⟩ rfl rfl ?_
      refine s_X6_refuse hd ?_
      refine zv_ireturn C dX6_reads_79 rfl rfl rfl rfl ?_
      refine h0 FR1 _ A N L p hFf ⟨fun o j c1 c2 => (zsF_ne (by omega)).trans (hX1.1 o j c1 c2), hX1.2⟩ hr ?_
      rw [zsF_eq, zsF_ne (by decide), a1.1]
      exact lF_1 no hne rfl

set_option maxRecDepth 20000 in
theorem s_X8_text {T : zTt} {FR : zFR} {AR : zAR} {FI : zFI} {AI : zAI} {Post : zPost} {B D : Nat} {b : Int → Int} {n : Int} {N0 : Int → Int}  (hd : dLay T FR B D) (hD : bLay T FR D) (gD : 17 ≤ D) (hn : FI 1 1 = n) (hn0 : 0 ≤ n) (hn2 : n ≤ 640) (hb : ∀ j : Int, 0 ≤ j → j < n → AI 2 j % 256 = b j) (hz : ∀ j : Int, 0 ≤ j → j < 1395 → N0 j = 0) (hok : ∀ (FR1 : zFR) (F1 : zFI) (A1 : zAI) (N : Int → Int) (L : Nat) (p : Int), dLay T FR1 D B → (∀ o j, o ≠ 3 → o ≠ 0 → FR1 o j = FR o j) → (∀ o j, o ≠ 3 → o ≠ D → o ≠ 1 → o ≠ 14 → F1 o j = FI o j) → (∀ a, a ≠ 4 → (a < D + 1 ∨ D + 4 < a) → A1 a = AI a) → F1 1 1 = 0 → F1 14 2 = 0 → F1 14 1 = FI 14 1 → tRun b n N0 L N p → bk F1 A1 D N → 2 ≤ L → tK b n p = 1 → F1 3 8 = 0 → Post (zI L) T FR1 AR F1 A1) (hno : ∀ (FR1 : zFR) (F1 : zFI) (A1 : zAI) (N : Int → Int) (L : Nat) (p pl : Int), dLay T FR1 B D → (∀ o j, o ≠ 3 → o ≠ 0 → FR1 o j = FR o j) → (∀ o j, o ≠ 3 → o ≠ D → o ≠ 1 → F1 o j = FI o j) → (∀ a, a ≠ 4 → (a < D + 1 ∨ D + 4 < a) → A1 a = AI a) → F1 1 1 = 0 → tRun b n N0 L N p → lFault b n p N L (F1 3 8) pl → Post (zI (-1 - pl)) T FR1 AR F1 A1) : zMet M_X8_text [zR 0] T FR AR FI AI Post := by
  refine zMet.of [some (zR 0), none, none] rfl rfl rfl (fun G C => ?_)
  refine zv_aload_n C dX8_text_0 rfl rfl ?_
  refine zv_getR C dX8_text_1 f_X8_19 hd.1 rfl hd.2.2.2.2.2.2.2.2.2.1 ?_
  refine zv_aload_n C dX8_text_4 rfl rfl ?_
  refine zv_getR C dX8_text_5 f_X8_12 hd.1 rfl hd.2.2.2.2.2.2.2.2.1 ?_
  refine zv_aload_n C dX8_text_8 rfl rfl ?_
  refine zv_getR C dX8_text_9 f_X8_50 hd.1 rfl hd.2.2.2.2.2.2.2.2.2.2.2.2.2.2.1 ?_
  refine zv_cVi0_2 C dX8_text_12 k_X6_reads l_X8_61 hd.2.2.2.1 rfl ⟨Nat.le_of_ble_eq_true rfl, Nat.le_of_ble_eq_true rfl⟩ ⟨rfl, rfl⟩ ⟨Nat.le_of_ble_eq_true rfl, Nat.le_of_ble_eq_true rfl⟩ rfl rfl ?_
  refine s_X6_reads hd hD gD hn hn0 hn2 hb hz (fun FR1 F1 A1 N L p hFf hX hr hK1 hL hk l7 l8 => ?_) (fun FR1 F1 A1 N L p hFf hX hr hlf => ?_)
  · have hd := dLay_fr hd hFf
    refine zv_istore_1 C dX8_text_15 rfl rfl ?_
    refine zv_aload_n C dX8_text_16 rfl rfl ?_
    refine zv_getR C dX8_text_17 f_X8_12 hd.1 rfl hd.2.2.2.2.2.2.2.2.1 ?_
    refine zv_iconst C dX8_text_20 rfl ?_
    refine zv_putI C dX8_text_21 f_X8_53 hd.2.1 rfl ?_
    refine zv_iload_n C dX8_text_24 rfl ?_
    refine zv_if_ne C 38 dX8_text_25 rfl (fun _ => ?_) (fun h => absurd h (by omega))
    refine zv_aload_n C dX8_text_38 rfl rfl ?_
    refine zv_getR C dX8_text_39 f_X8_46 hd.1 rfl hd.2.2.2.2.2.2.2.2.2.2.2.2.2.1 ?_
    refine zv_astore_2 C dX8_text_42 rfl rfl rfl ?_
    refine zv_aload_n C dX8_text_43 rfl rfl ?_
    refine zv_aload_n C dX8_text_44 rfl rfl ?_
    refine zv_getR C dX8_text_45 f_X8_50 hd.1 rfl hd.2.2.2.2.2.2.2.2.2.2.2.2.2.2.1 ?_
    refine zv_putP C dX8_text_48 f_X8_46 hd.1 rfl ?_
    refine zv_aload_n C dX8_text_51 rfl rfl ?_
    refine zv_aload_n C dX8_text_52 rfl rfl ?_
    refine zv_putP C dX8_text_53 f_X8_50 hd.1 rfl ?_
    have hd : dLay T (zsR (zsR FR1 0 5 (some D)) 0 6 (some B)) D B := by
      have e : ∀ o j, o ≠ 0 ∨ j < 5 → zsR (zsR FR1 0 5 (some D)) 0 6 (some B) o j = FR1 o j := fun o j h => by unfold zsR; rw [if_neg (by omega), if_neg (by omega)]
      have e5 : zsR (zsR FR1 0 5 (some D)) 0 6 (some B) 0 5 = some D := rfl
      have e6 : zsR (zsR FR1 0 5 (some D)) 0 6 (some B) 0 6 = some B := rfl
      unfold dLay at hd ⊢
      rw [e5, e6, e 0 0 (by omega), e 0 1 (by omega), e 0 2 (by omega), e 0 3 (by omega), e 0 4 (by omega), e 1 0 (by omega), e 3 0 (by omega), e 14 0 (by omega)]
      obtain ⟨q1, q2, q3, q4, q5, q6, q7, q8, q9, q10, q11, q12, q13, q14, q15, q16, q17, q18⟩ := hd
      exact ⟨q1, q2, q3, q4, q5, q6, q7, q8, q9, q10, q11, q12, q13, rfl, rfl, q16, q17, q18⟩
    refine zv_aload_n C dX8_text_56 rfl rfl ?_
    refine zv_getR C dX8_text_57 f_X8_33 hd.1 rfl hd.2.2.2.2.2.2.2.2.2.2.2.1 ?_
    refine zv_cVv0_0 C dX8_text_60 k_X1_forget l_X8_68 hd.2.2.2.2.2.1 rfl ⟨Nat.le_of_ble_eq_true rfl, Nat.le_of_ble_eq_true rfl⟩ ⟨rfl, rfl⟩ ⟨Nat.le_of_ble_eq_true rfl, Nat.le_of_ble_eq_true rfl⟩ rfl rfl ?_
    refine s_X1_forget hd ?_
    refine zv_aload_n C dX8_text_63 rfl rfl ?_
    refine zv_getR C dX8_text_64 f_X8_19 hd.1 rfl hd.2.2.2.2.2.2.2.2.2.1 ?_
    refine zv_getI C dX8_text_67 f_X8_71 hd.2.2.2.1 rfl ?_
    try simp (disch := omega) only [zsF_eq, zsF_ne]
    try rw [l7]
    refine zv_ireturn C dX8_text_70 rfl rfl rfl rfl ?_
    refine hok _ _ A1 N L p hd (fun o j c1 c2 => ?_) (fun o j c1 c2 c3 c4 => ?_) hX.2 ?_ zsF_eq ?_ hr ?_ hL hk ?_
    · unfold zsR
      rw [if_neg (by omega), if_neg (by omega)]
      exact hFf o j (Or.inl c1)
    · rw [zsF_ne (by omega), zsF_ne (by omega)]; exact hX.1 o j c1 c2
    · rw [zsF_ne (by decide), zsF_eq]
    · rw [zsF_ne (by decide), zsF_ne (by decide)]; exact hX.1 14 1 (by omega) (by omega)
    · exact bk_setI (bk_setI hK1 (by omega)) (by omega)
    · rw [zsF_ne (by decide), zsF_ne (by decide)]; exact l8
  · have hd := dLay_fr hd hFf
    refine zv_istore_1 C dX8_text_15 rfl rfl ?_
    refine zv_aload_n C dX8_text_16 rfl rfl ?_
    refine zv_getR C dX8_text_17 f_X8_12 hd.1 rfl hd.2.2.2.2.2.2.2.2.1 ?_
    refine zv_iconst C dX8_text_20 rfl ?_
    refine zv_putI C dX8_text_21 f_X8_53 hd.2.1 rfl ?_
    refine zv_iload_n C dX8_text_24 rfl ?_
    refine zv_if_ne C 38 dX8_text_25 rfl (fun h => absurd h (by omega)) (fun _ => ?_)
    refine zv_iconst C dX8_text_28 rfl ?_
    refine zv_aload_n C dX8_text_29 rfl rfl ?_
    refine zv_getR C dX8_text_30 f_X8_19 hd.1 rfl hd.2.2.2.2.2.2.2.2.2.1 ?_
    refine zv_getI C dX8_text_33 f_X8_65 hd.2.2.2.1 rfl ?_
    try simp (disch := omega) only [zsF_eq, zsF_ne]
    obtain ⟨iT, i1, i2⟩ := tRun_inv hn0 hz L N p hr
    have pb := lFault_b (by omega) i2 hn2 hlf
    refine zv_isub C dX8_text_36 ⟨by omega, by omega⟩ ?_
    refine zv_ireturn C dX8_text_37 rfl rfl rfl rfl ?_
    refine hno FR1 _ A1 N L p _ hd (fun o j c1 _ => hFf o j (Or.inl c1)) (fun o j c1 c2 c3 => (zsF_ne (by omega)).trans (hX.1 o j c1 c2)) hX.2 zsF_eq hr ?_
    rw [zsF_ne (by decide)]
    exact hlf
