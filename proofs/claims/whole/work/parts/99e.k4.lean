/-- what the reading of a text may change in the class -/
def rdX (D : Nat) (FI F : zFI) (AI A : zAI) : Prop := (∀ o j, o ≠ 3 → o ≠ D → F o j = FI o j) ∧ ∀ a, a ≠ 4 → (a < D + 1 ∨ D + 4 < a) → A a = AI a
set_option maxRecDepth 20000 in
theorem s_X6_reads {T : zTt} {FR : zFR} {AR : zAR} {FI : zFI} {AI : zAI} {Post : zPost} {B D : Nat} {b : Int → Int} {n : Int} {N0 : Int → Int}  (hd : dLay T FR B D) (hD : bLay T FR D) (gD : 17 ≤ D) (hn : FI 1 1 = n) (hn0 : 0 ≤ n) (hn2 : n ≤ 640) (hb : ∀ j : Int, 0 ≤ j → j < n → AI 2 j % 256 = b j) (hz : ∀ j : Int, 0 ≤ j → j < 1395 → N0 j = 0) (h1 : ∀ (F1 : zFI) (A1 : zAI) (N : Int → Int) (L : Nat) (p : Int), rdX D FI F1 AI A1 → tRun b n N0 L N p → bk F1 A1 D N → 2 ≤ L → tK b n p = 1 → F1 3 7 = L → F1 3 8 = 0 → Post (zI 1) T FR AR F1 A1) (h0 : ∀ (F1 : zFI) (A1 : zAI) (N : Int → Int) (L : Nat) (p : Int), rdX D FI F1 AI A1 → tRun b n N0 L N p → lFault b n p N L (F1 3 8) (F1 3 6) → Post (zI 0) T FR AR F1 A1) : zMet M_X6_reads [zR 3] T FR AR FI AI Post := by
  refine zMet.of [some (zR 3), none, none] rfl rfl rfl (fun G C => ?_)
  have hrt : FR 3 0 = some 1 := hd.2.2.2.2.2.2.2.2.2.2.2.2.2.2.2.2.2.2
  have hrb : FR 3 2 = some D := hd.2.2.2.2.2.2.2.2.2.2.2.2.2.2.1
  suffices lp : ∀ (d L : Nat) (w : Option zVal) (F : zFI) (A : zAI) (N : Int → Int) (p : Int), L + d = 641 → rdX D FI F AI A → tRun b n N0 L N p → bk F A D N → F 3 3 = p → F 3 7 = L → F 3 8 = 0 → zV G 24 [some (zR 3), some (zI (L : Int)), w] [] T FR AR F A 0 0 from by
    refine zv_aload_n C dX6_reads_0 rfl rfl ?_
    refine zv_getR C dX6_reads_1 f_X6_25 hd.2.2.2.1 rfl hrb ?_
    refine zv_cVv0_0 C dX6_reads_4 k_X2_clear l_X6_29 hD.1 rfl ⟨Nat.le_of_ble_eq_true rfl, Nat.le_of_ble_eq_true rfl⟩ ⟨rfl, rfl⟩ ⟨Nat.le_of_ble_eq_true rfl, Nat.le_of_ble_eq_true rfl⟩ rfl rfl ?_
    refine s_X2_clear hD hz (fun F0 A0 f0 kk => ?_)
    refine zv_aload_n C dX6_reads_7 rfl rfl ?_
    refine zv_iconst C dX6_reads_8 rfl ?_
    refine zv_putI C dX6_reads_9 f_X6_32 hd.2.2.2.1 rfl ?_
    refine zv_aload_n C dX6_reads_12 rfl rfl ?_
    refine zv_iconst C dX6_reads_13 rfl ?_
    refine zv_putI C dX6_reads_14 f_X6_36 hd.2.2.2.1 rfl ?_
    refine zv_aload_n C dX6_reads_17 rfl rfl ?_
    refine zv_iconst C dX6_reads_18 rfl ?_
    refine zv_putI C dX6_reads_19 f_X6_39 hd.2.2.2.1 rfl ?_
    refine zv_iconst C dX6_reads_22 rfl ?_
    refine zv_istore_1 C dX6_reads_23 rfl rfl ?_
    exact lp 641 0 none _ A0 N0 0 (by omega) ⟨fun o j a c => by rw [zsF_ne (by omega), zsF_ne (by omega), zsF_ne (by omega)]; exact f0.1 o j c, fun a _ c => f0.2 a c⟩ ⟨rfl, rfl⟩ (bk_setI (bk_setI (bk_setI kk (by omega)) (by omega)) (by omega)) (by rw [zsF_ne (by decide), zsF_ne (by decide), zsF_eq]) (by rw [zsF_ne (by decide), zsF_eq]; rfl) zsF_eq
  intro d
  induction d with
  | zero =>
    intro L w F A N p hLd hX hr hK h3 h7 h8
    have inv := tRun_inv hn0 hz L N p hr
    exfalso
    omega
  | succ d ih =>
    intro L w F A N p hLd hX hr hK h3 h7 h8
    obtain ⟨iT, i1, i2⟩ := tRun_inv hn0 hz L N p hr
    obtain ⟨t0, t1, t2, t3, t4, -⟩ := id iT
    have e11 : F 1 1 = n := (hX.1 1 1 (by omega) (by omega)).trans hn
    have hbb : ∀ q : Int, 0 ≤ q → q < n → A 2 q % 256 = b q := fun q q0 q1 => by rw [hX.2 2 (by omega) (by omega)]; exact hb q q0 q1
    refine zv_iload_n C dX6_reads_24 rfl ?_
    refine zv_sipush C dX6_reads_25 rfl ?_
    refine zv_icmp_gt C 116 dX6_reads_28 rfl (fun h28 => absurd h28 (by omega)) (fun h28 => ?_)
    refine zv_aload_n C dX6_reads_31 rfl rfl ?_
    refine zv_cVv0_0 C dX6_reads_32 k_X6_advance l_X6_42 hd.2.2.2.1 rfl ⟨Nat.le_of_ble_eq_true rfl, Nat.le_of_ble_eq_true rfl⟩ ⟨rfl, rfl⟩ ⟨Nat.le_of_ble_eq_true rfl, Nat.le_of_ble_eq_true rfl⟩ rfl rfl ?_
    refine s_X6_advance hd hrt e11 hn0 hn2 hbb (by omega) (by omega) (fun F1 f1 a1 => ?_)
    rw [h3] at a1
    have hX1 : rdX D FI F1 AI A := ⟨fun o j c1 c2 => (f1 o j (by omega)).trans (hX.1 o j c1 c2), hX.2⟩
    have hK1 : bk F1 A D N := bk_fr hK (fun j _ _ => f1 D j (by omega)) (fun _ _ _ => rfl)
    have l7 : F1 3 7 = L := (f1 3 7 (by omega)).trans h7
    have l8 : F1 3 8 = 0 := (f1 3 8 (by omega)).trans h8
    have e12 : F1 1 1 = n := (f1 1 1 (by omega)).trans e11
    suffices J53 : ¬ (tK b n p = 1 ∧ 2 ≤ (L : Int)) → zV G 53 [some (zR 3), some (zI (L : Int)), w] [] T FR AR F1 A 0 0 from by
      refine zv_aload_n C dX6_reads_35 rfl rfl ?_
      refine zv_getI C dX6_reads_36 f_X6_45 hd.2.2.2.1 rfl ?_
      refine zv_iconst C dX6_reads_39 rfl ?_
      rw [a1.2.1]
      refine zv_icmp_ne C 53 dX6_reads_40 rfl (fun h40 => ?_) (fun h40 => ?_)
      · exact J53 (by omega)
      · refine zv_aload_n C dX6_reads_43 rfl rfl ?_
        refine zv_getI C dX6_reads_44 f_X6_36 hd.2.2.2.1 rfl ?_
        refine zv_iconst C dX6_reads_47 rfl ?_
        rw [l7]
        refine zv_icmp_lt C 53 dX6_reads_48 rfl (fun h48 => ?_) (fun h48 => ?_)
        · exact J53 (by omega)
        · refine zv_iconst C dX6_reads_51 rfl ?_
          refine zv_ireturn C dX6_reads_52 rfl rfl rfl rfl ?_
          exact h1 F1 A N L p hX1 hr hK1 (by omega) (by omega) l7 l8
    intro hne
    refine zv_aload_n C dX6_reads_53 rfl rfl ?_
    refine zv_cVi0_0 C dX6_reads_54 k_X6_lineThatComes l_X6_48 hd.2.2.2.1 rfl ⟨Nat.le_of_ble_eq_true rfl, Nat.le_of_ble_eq_true rfl⟩ ⟨rfl, rfl⟩ ⟨Nat.le_of_ble_eq_true rfl, Nat.le_of_ble_eq_true rfl⟩ rfl rfl ?_
    refine s_X6_lineThatComes hd hrt e12 hn0 hn2 hbb hrb hD hK1 a1 (by omega) (by omega) t2 l7 (fun j ok => ?_) (fun no => ?_)
    · have k2w := ok.2.1.1
      have pn := tN_b (b := b) (n := n) (p := p) (by omega)
      have pg := tN_ge (b := b) (n := n) (p := p)
      refine zv_astore_2 C dX6_reads_57 rfl rfl rfl ?_
      refine zv_aload_n C dX6_reads_58 rfl rfl ?_
      refine zv_ifnonnullA C 68 dX6_reads_59 rfl ?_
      refine zv_aload_n C dX6_reads_68 rfl rfl ?_
      refine zv_aload_n C dX6_reads_69 rfl rfl ?_
      refine zv_cVi0_1 C dX6_reads_70 k2_X6_isOneMore l_X6_56 hd.2.2.2.1 rfl ⟨Nat.le_of_ble_eq_true rfl, Nat.le_of_ble_eq_true rfl⟩ ⟨rfl, rfl⟩ ⟨Nat.le_of_ble_eq_true rfl, Nat.le_of_ble_eq_true rfl⟩ rfl rfl ?_
      refine s_X6_isOneMore ok.1 hd hrb hD hK1 (by omega) (fun bf => ?_) (fun bf => ?_)
      · refine zv_if_eq C 82 dX6_reads_73 rfl (fun h => absurd h (by omega)) (fun _ => ?_)
        refine zv_aload_n C dX6_reads_76 rfl rfl ?_
        refine zv_iconst C dX6_reads_77 rfl ?_
        refine zv_cVi0_1 C dX6_reads_78 k_X6_refuse l_X6_52 hd.2.2.2.1 rfl ⟨Nat.le_of_ble_eq_true rfl, Nat.le_of_ble_eq_true rfl⟩ ⟨rfl, rfl⟩ ⟨Nat.le_of_ble_eq_true rfl, Nat.le_of_ble_eq_true rfl⟩ rfl rfl ?_
        refine s_X6_refuse hd ?_
        refine zv_ireturn C dX6_reads_81 rfl rfl rfl rfl ?_
        refine h0 _ A N L p ⟨fun o j c1 c2 => (zsF_ne (by omega)).trans (hX1.1 o j c1 c2), hX1.2⟩ hr ?_
        rw [zsF_eq, zsF_ne (by decide), a1.1]
        exact lF_f ok bf
      · refine zv_if_eq C 82 dX6_reads_73 rfl (fun _ => ?_) (fun h => absurd h (by omega))
        refine zv_aload_n C dX6_reads_82 rfl rfl ?_
        refine zv_aload_n C dX6_reads_83 rfl rfl ?_
        refine zv_getfA (j := 10 + zSlo.getD j 0) C dX6_reads_84 fs_X6_60 (zOF_slots ok.1) ?_
        refine zv_cVi0_1 C dX6_reads_87 k_X6_readsNumbers l_X6_66 hd.2.2.2.1 rfl ⟨Nat.le_of_ble_eq_true rfl, Nat.le_of_ble_eq_true rfl⟩ ⟨rfl, rfl⟩ ⟨Nat.le_of_ble_eq_true rfl, Nat.le_of_ble_eq_true rfl⟩ rfl rfl ?_
        refine s_X6_readsNumbers hd hrt e12 hn0 hn2 hbb hrb hD gD ok.1 hK1.2.2.1 t2 (a1.2.2.1 (by omega)) (by omega) pn (fun F2 A2 f2 a2 gd hv v3 => ?_) (fun F2 A2 f2 bd => ?_)
        · refine zv_if_ne C 95 dX6_reads_90 rfl (fun _ => ?_) (fun h => absurd h (by omega))
          refine zv_aload_n C dX6_reads_95 rfl rfl ?_
          refine zv_aload_n C dX6_reads_96 rfl rfl ?_
          have hK2 : bk F2 A2 D N := bk_fr hK1 (fun j _ _ => f2 D j (by omega)) (fun a c _ => a2 a (by omega))
          refine zv_cVv0_1 C dX6_reads_97 k_X6_enter l_X6_70 hd.2.2.2.1 rfl ⟨Nat.le_of_ble_eq_true rfl, Nat.le_of_ble_eq_true rfl⟩ ⟨rfl, rfl⟩ ⟨Nat.le_of_ble_eq_true rfl, Nat.le_of_ble_eq_true rfl⟩ rfl rfl ?_
          refine s_X6_enter ok.1 hd hrb hD hK2 iT bf hv (fun k hk => (gd.1 k hk).2) (fun F3 A3 f3 kk => ?_)
          have l73 : F3 3 7 = L := (f3.1 3 7 (by omega)).trans ((f2 3 7 (by omega)).trans l7)
          refine zv_aload_n C dX6_reads_100 rfl rfl ?_
          refine zv_dup C dX6_reads_101 rfl ?_
          refine zv_getI C dX6_reads_102 f_X6_36 hd.2.2.2.1 rfl ?_
          refine zv_iconst C dX6_reads_105 rfl ?_
          rw [l73]
          refine zv_iadd C dX6_reads_106 ⟨by omega, by omega⟩ ?_
          refine zv_putI C dX6_reads_107 f_X6_36 hd.2.2.2.1 rfl ?_
          refine zv_iinc_1 C dX6_reads_110 rfl rfl ⟨by omega, by omega⟩ ?_
          refine zv_goto C 24 dX6_reads_113 rfl ?_
          refine ih (L + 1) _ _ A3 _ _ (by omega) ⟨fun o j c1 c2 => ?_, fun a c1 c2 => ?_⟩ ⟨N, p, hr, j, ok, bf, gd, rfl, rfl⟩ (bk_setI kk (by omega)) ?_ ?_ ?_
          · rw [zsF_ne (by omega), f3.1 o j c2, f2 o j (by omega)]; exact hX1.1 o j c1 c2
          · rw [f3.2 a c2, a2 a c1]; exact hX1.2 a c1 c2
          · rw [zsF_ne (by decide), f3.1 3 3 (by omega)]; exact v3
          · rw [zsF_eq]; omega
          · rw [zsF_ne (by decide), f3.1 3 8 (by omega), f2 3 8 (by omega)]; exact l8
        · refine zv_if_ne C 95 dX6_reads_90 rfl (fun h => absurd h (by omega)) (fun _ => ?_)
          refine zv_iconst C dX6_reads_93 rfl ?_
          refine zv_ireturn C dX6_reads_94 rfl rfl rfl rfl ?_
          refine h0 _ A2 N L p ⟨fun o j c1 c2 => (f2.1 o j (by omega)).trans (hX1.1 o j c1 c2), fun a c1 c2 => (f2.2 a c1).trans (hX1.2 a c1 c2)⟩ hr ?_
          exact lF_s ok bf bd
    · refine zv_astore_2 C dX6_reads_57 rfl rfl rfl ?_
      refine zv_aload_n C dX6_reads_58 rfl rfl ?_
      refine zv_ifnonnull C 68 dX6_reads_59 rfl (fun a h => by cases h) (fun _ => ?_)
      refine zv_aload_n C dX6_reads_62 rfl rfl ?_
      refine zv_iconst C dX6_reads_63 rfl ?_
      refine zv_cVi0_1 C dX6_reads_64 k_X6_refuse l_X6_52 hd.2.2.2.1 rfl ⟨Nat.le_of_ble_eq_true rfl, Nat.le_of_ble_eq_true rfl⟩ ⟨rfl, rfl⟩ ⟨Nat.le_of_ble_eq_true rfl, Nat.le_of_ble_eq_true rfl⟩ rfl rfl ?_
      refine s_X6_refuse hd ?_
      refine zv_ireturn C dX6_reads_67 rfl rfl rfl rfl ?_
      refine h0 _ A N L p ⟨fun o j c1 c2 => (zsF_ne (by omega)).trans (hX1.1 o j c1 c2), hX1.2⟩ hr ?_
      rw [zsF_eq, zsF_ne (by decide), a1.1]
      exact lF_1 no hne rfl

set_option maxRecDepth 20000 in
theorem s_X6_exchange {T : zTt} {FR : zFR} {AR : zAR} {FI : zFI} {AI : zAI} {Post : zPost} {B D : Nat}  (hd : dLay T FR B D) (hD : bLay T FR D) (hrb : FR 3 2 = some D) (hp : Post (zR D) T (zsR FR 3 2 (some B)) AR FI AI) : zMet M_X6_exchange [zR 3, zR B] T FR AR FI AI Post := by
  refine zMet.of [some (zR 3), some (zR B), none] rfl rfl rfl (fun G C => ?_)
  refine zv_aload_n C dX6_exchange_0 rfl rfl ?_
  refine zv_getR C dX6_exchange_1 f_X6_25 hd.2.2.2.1 rfl hrb ?_
  refine zv_astore_2 C dX6_exchange_4 rfl rfl rfl ?_
  refine zv_aload_n C dX6_exchange_5 rfl rfl ?_
  refine zv_aload_n C dX6_exchange_6 rfl rfl ?_
  refine zv_putP C dX6_exchange_7 f_X6_25 hd.2.2.2.1 rfl ?_
  refine zv_aload_n C dX6_exchange_10 rfl rfl ?_
  refine zv_areturn C dX6_exchange_11 rfl rfl rfl rfl ?_
  exact hp
set_option maxRecDepth 20000 in
theorem s_X8_text {T : zTt} {FR : zFR} {AR : zAR} {FI : zFI} {AI : zAI} {Post : zPost} {B D : Nat} {b : Int → Int} {n : Int} {N0 : Int → Int}  (hd : dLay T FR B D) (hD : bLay T FR D) (gD : 17 ≤ D) (hn : FI 1 1 = n) (hn0 : 0 ≤ n) (hn2 : n ≤ 640) (hb : ∀ j : Int, 0 ≤ j → j < n → AI 2 j % 256 = b j) (hz : ∀ j : Int, 0 ≤ j → j < 1395 → N0 j = 0) (hok : ∀ (FR1 : zFR) (F1 : zFI) (A1 : zAI) (N : Int → Int) (L : Nat) (p : Int), dLay T FR1 D B → (∀ o j, o ≠ 3 → o ≠ 0 → FR1 o j = FR o j) → (∀ o j, o ≠ 3 → o ≠ D → o ≠ 1 → o ≠ 14 → F1 o j = FI o j) → (∀ a, a ≠ 4 → (a < D + 1 ∨ D + 4 < a) → A1 a = AI a) → F1 1 1 = 0 → F1 14 2 = 0 → F1 14 1 = FI 14 1 → tRun b n N0 L N p → bk F1 A1 D N → 2 ≤ L → tK b n p = 1 → F1 3 8 = 0 → Post (zI L) T FR1 AR F1 A1) (hno : ∀ (FR1 : zFR) (F1 : zFI) (A1 : zAI) (N : Int → Int) (L : Nat) (p pl : Int), dLay T FR1 B D → (∀ o j, o ≠ 3 → o ≠ 0 → FR1 o j = FR o j) → (∀ o j, o ≠ 3 → o ≠ D → o ≠ 1 → F1 o j = FI o j) → (∀ a, a ≠ 4 → (a < D + 1 ∨ D + 4 < a) → A1 a = AI a) → F1 1 1 = 0 → tRun b n N0 L N p → lFault b n p N L (F1 3 8) pl → Post (zI (-1 - pl)) T FR1 AR F1 A1) : zMet M_X8_text [zR 0] T FR AR FI AI Post := by
  refine zMet.of [some (zR 0), none] rfl rfl rfl (fun G C => ?_)
  refine zv_aload_n C dX8_text_0 rfl rfl ?_
  refine zv_getR C dX8_text_1 f_X8_12 hd.1 rfl hd.2.2.2.2.2.2.2.2.2.1 ?_
  refine zv_cVi0_0 C dX8_text_4 k_X6_reads l_X8_58 hd.2.2.2.1 rfl ⟨Nat.le_of_ble_eq_true rfl, Nat.le_of_ble_eq_true rfl⟩ ⟨rfl, rfl⟩ ⟨Nat.le_of_ble_eq_true rfl, Nat.le_of_ble_eq_true rfl⟩ rfl rfl ?_
  refine s_X6_reads hd hD gD hn hn0 hn2 hb hz (fun F1 A1 N L p hX hr hK1 hL hk l7 l8 => ?_) (fun F1 A1 N L p hX hr hlf => ?_)
  · refine zv_istore_1 C dX8_text_7 rfl rfl ?_
    refine zv_aload_n C dX8_text_8 rfl rfl ?_
    refine zv_getR C dX8_text_9 f_X8_20 hd.1 rfl hd.2.2.2.2.2.2.2.2.1 ?_
    refine zv_iconst C dX8_text_12 rfl ?_
    refine zv_putI C dX8_text_13 f_X8_48 hd.2.1 rfl ?_
    refine zv_iload_n C dX8_text_16 rfl ?_
    refine zv_if_ne C 30 dX8_text_17 rfl (fun _ => ?_) (fun h => absurd h (by omega))
    refine zv_aload_n C dX8_text_30 rfl rfl ?_
    refine zv_aload_n C dX8_text_31 rfl rfl ?_
    refine zv_getR C dX8_text_32 f_X8_12 hd.1 rfl hd.2.2.2.2.2.2.2.2.2.1 ?_
    refine zv_aload_n C dX8_text_35 rfl rfl ?_
    refine zv_getR C dX8_text_36 f_X8_44 hd.1 rfl hd.2.2.2.2.2.2.2.2.2.2.2.2.2.1 ?_
    refine zv_cVi0_1 C dX8_text_39 k_X6_exchange l_X8_65 hd.2.2.2.1 rfl ⟨Nat.le_of_ble_eq_true rfl, Nat.le_of_ble_eq_true rfl⟩ ⟨rfl, rfl⟩ ⟨Nat.le_of_ble_eq_true rfl, Nat.le_of_ble_eq_true rfl⟩ rfl rfl ?_
    refine s_X6_exchange hd hD hd.2.2.2.2.2.2.2.2.2.2.2.2.2.2.1 ?_
    refine zv_putP C dX8_text_42 f_X8_44 hd.1 rfl ?_
    have hd := dLay_x hd
    refine zv_aload_n C dX8_text_45 rfl rfl ?_
    refine zv_getR C dX8_text_46 f_X8_31 hd.1 rfl hd.2.2.2.2.2.2.2.2.2.2.2.1 ?_
    refine zv_cVv0_0 C dX8_text_49 k_X1_forget l_X8_69 hd.2.2.2.2.2.1 rfl ⟨Nat.le_of_ble_eq_true rfl, Nat.le_of_ble_eq_true rfl⟩ ⟨rfl, rfl⟩ ⟨Nat.le_of_ble_eq_true rfl, Nat.le_of_ble_eq_true rfl⟩ rfl rfl ?_
    refine s_X1_forget hd ?_
    refine zv_aload_n C dX8_text_52 rfl rfl ?_
    refine zv_getR C dX8_text_53 f_X8_12 hd.1 rfl hd.2.2.2.2.2.2.2.2.2.1 ?_
    refine zv_getI C dX8_text_56 f_X8_72 hd.2.2.2.1 rfl ?_
    try simp (disch := omega) only [zsF_eq, zsF_ne]
    try rw [l7]
    refine zv_ireturn C dX8_text_59 rfl rfl rfl rfl ?_
    refine hok _ _ A1 N L p hd (fun o j c1 c2 => ?_) (fun o j c1 c2 c3 c4 => ?_) hX.2 ?_ zsF_eq ?_ hr ?_ hL hk ?_
    · unfold zsR
      rw [if_neg (by omega), if_neg (by omega)]
    · rw [zsF_ne (by omega), zsF_ne (by omega)]; exact hX.1 o j c1 c2
    · rw [zsF_ne (by decide), zsF_eq]
    · rw [zsF_ne (by decide), zsF_ne (by decide)]; exact hX.1 14 1 (by omega) (by omega)
    · exact bk_setI (bk_setI hK1 (by omega)) (by omega)
    · rw [zsF_ne (by decide), zsF_ne (by decide)]; exact l8
  · refine zv_istore_1 C dX8_text_7 rfl rfl ?_
    refine zv_aload_n C dX8_text_8 rfl rfl ?_
    refine zv_getR C dX8_text_9 f_X8_20 hd.1 rfl hd.2.2.2.2.2.2.2.2.1 ?_
    refine zv_iconst C dX8_text_12 rfl ?_
    refine zv_putI C dX8_text_13 f_X8_48 hd.2.1 rfl ?_
    refine zv_iload_n C dX8_text_16 rfl ?_
    refine zv_if_ne C 30 dX8_text_17 rfl (fun h => absurd h (by omega)) (fun _ => ?_)
    refine zv_iconst C dX8_text_20 rfl ?_
    refine zv_aload_n C dX8_text_21 rfl rfl ?_
    refine zv_getR C dX8_text_22 f_X8_12 hd.1 rfl hd.2.2.2.2.2.2.2.2.2.1 ?_
    refine zv_getI C dX8_text_25 f_X8_62 hd.2.2.2.1 rfl ?_
    try simp (disch := omega) only [zsF_eq, zsF_ne]
    obtain ⟨iT, i1, i2⟩ := tRun_inv hn0 hz L N p hr
    have pb := lFault_b (by omega) i2 hn2 hlf
    refine zv_isub C dX8_text_28 ⟨by omega, by omega⟩ ?_
    refine zv_ireturn C dX8_text_29 rfl rfl rfl rfl ?_
    refine hno FR _ A1 N L p _ hd (fun _ _ _ _ => rfl) (fun o j c1 c2 c3 => (zsF_ne (by omega)).trans (hX.1 o j c1 c2)) hX.2 zsF_eq hr ?_
    rw [zsF_ne (by decide)]
    exact hlf
