abbrev mIt (N : Int → Int) : Int → Int → Int := fun i f => N (245 + 5 * i + f)
abbrev mLo (N : Int → Int) : Int → Int → Int := fun l f => N (395 + 4 * l + f)
set_option maxRecDepth 20000 in
theorem s_X9_upTo {T : zTt} {FR : zFR} {AR : zAR} {FI : zFI} {AI : zAI} {Post : zPost} {i y : Int} (hL : mLay T FR) (g0 : 0 ≤ i) (g1 : i < 30) (gw : wI (mIt (AI 111)) i) (g2 : -2 ≤ y) (g3 : y ≤ 40) (hp : Post (zI (zUp (mIt (AI 111)) i y)) T FR AR FI AI) : zMet M_X9_upTo [zR 100, zI i, zI y] T FR AR FI AI Post := by
  refine zMet.of [some (zR 100), some (zI i), some (zI y), none, none] rfl rfl rfl (fun G C => ?_)
  obtain ⟨-, -, w1, w2⟩ := id gw
  simp only [mIt] at w1 w2
  refine zv_aload_n C dX9_upTo_0 rfl rfl ?_
  refine zv_iload_n C dX9_upTo_1 rfl ?_
  refine zv_iconst C dX9_upTo_2 rfl ?_
  refine zv_cVi0_2 C dX9_upTo_3 k_X9_its l_X9_179 hL.1 rfl ⟨Nat.le_of_ble_eq_true rfl, Nat.le_of_ble_eq_true rfl⟩ ⟨rfl, rfl⟩ ⟨Nat.le_of_ble_eq_true rfl, Nat.le_of_ble_eq_true rfl⟩ rfl rfl ?_
  refine s_X9_its hL (by omega) (by omega) (by omega) (by omega) ?_
  refine zv_aload_n C dX9_upTo_6 rfl rfl ?_
  refine zv_iload_n C dX9_upTo_7 rfl ?_
  refine zv_iconst C dX9_upTo_8 rfl ?_
  refine zv_cVi0_2 C dX9_upTo_9 k_X9_its l_X9_179 hL.1 rfl ⟨Nat.le_of_ble_eq_true rfl, Nat.le_of_ble_eq_true rfl⟩ ⟨rfl, rfl⟩ ⟨Nat.le_of_ble_eq_true rfl, Nat.le_of_ble_eq_true rfl⟩ rfl rfl ?_
  refine s_X9_its hL (by omega) (by omega) (by omega) (by omega) ?_
  refine zv_isub C dX9_upTo_12 ⟨by omega, by omega⟩ ?_
  refine zv_iconst C dX9_upTo_13 rfl ?_
  refine zv_iadd C dX9_upTo_14 ⟨by omega, by omega⟩ ?_
  refine zv_istore_3 C dX9_upTo_15 rfl rfl ?_
  refine zv_iload_n C dX9_upTo_16 rfl ?_
  refine zv_aload_n C dX9_upTo_17 rfl rfl ?_
  refine zv_iload_n C dX9_upTo_18 rfl ?_
  refine zv_iconst C dX9_upTo_19 rfl ?_
  refine zv_cVi0_2 C dX9_upTo_20 k_X9_its l_X9_179 hL.1 rfl ⟨Nat.le_of_ble_eq_true rfl, Nat.le_of_ble_eq_true rfl⟩ ⟨rfl, rfl⟩ ⟨Nat.le_of_ble_eq_true rfl, Nat.le_of_ble_eq_true rfl⟩ rfl rfl ?_
  refine s_X9_its hL (by omega) (by omega) (by omega) (by omega) ?_
  refine zv_isub C dX9_upTo_23 ⟨by omega, by omega⟩ ?_
  refine zv_iconst C dX9_upTo_24 rfl ?_
  refine zv_iadd C dX9_upTo_25 ⟨by omega, by omega⟩ ?_
  refine zv_istore_4 C dX9_upTo_26 rfl rfl ?_
  refine zv_iload C dX9_upTo_28 rfl ?_
  refine zv_if_gt C 37 dX9_upTo_30 rfl (fun h30 => ?_) (fun h30 => ?_)
  · refine zv_iload C dX9_upTo_37 rfl ?_
    refine zv_iload_n C dX9_upTo_39 rfl ?_
    refine zv_icmp_lt C 52 dX9_upTo_40 rfl (fun h40 => ?_) (fun h40 => ?_)
    · refine zv_aload_n C dX9_upTo_52 rfl rfl ?_
      refine zv_iload_n C dX9_upTo_53 rfl ?_
      refine zv_iconst C dX9_upTo_54 rfl ?_
      refine zv_cVi0_2 C dX9_upTo_55 k_X9_its l_X9_179 hL.1 rfl ⟨Nat.le_of_ble_eq_true rfl, Nat.le_of_ble_eq_true rfl⟩ ⟨rfl, rfl⟩ ⟨Nat.le_of_ble_eq_true rfl, Nat.le_of_ble_eq_true rfl⟩ rfl rfl ?_
      refine s_X9_its hL (by omega) (by omega) (by omega) (by omega) ?_
      refine zv_i2l C dX9_upTo_58 ?_
      refine zv_iload C dX9_upTo_59 rfl ?_
      refine zv_i2l C dX9_upTo_61 ?_
      have hm := zmulb (A := 99999) (B := 40) w1.1 w1.2 (b := y - AI 111 (245 + 5 * i + 3) + 1) (by omega) (by omega)
      refine zv_lmul C dX9_upTo_62 ⟨by omega, by omega⟩ ?_
      refine zv_iload_n C dX9_upTo_63 rfl ?_
      refine zv_i2l C dX9_upTo_64 ?_
      refine zv_ldiv C dX9_upTo_65 (by omega) (by omega) ?_
      have hu := zUp_b gw y
      simp only [zUp, mIt] at hu
      rw [if_neg (by omega), if_neg (by omega)] at hu
      refine zv_l2i C dX9_upTo_66 ⟨by omega, by omega⟩ ?_
      refine zv_ireturn C dX9_upTo_67 rfl rfl rfl rfl ?_
      simp only [zUp, mIt] at hp
      first | (rw [if_pos (by omega)] at hp; exact hp) | (rw [if_neg (by omega), if_pos (by omega)] at hp; exact hp) | (rw [if_neg (by omega), if_neg (by omega)] at hp; exact hp)
    · refine zv_aload_n C dX9_upTo_43 rfl rfl ?_
      refine zv_iload_n C dX9_upTo_44 rfl ?_
      refine zv_iconst C dX9_upTo_45 rfl ?_
      refine zv_cVi0_2 C dX9_upTo_46 k_X9_its l_X9_179 hL.1 rfl ⟨Nat.le_of_ble_eq_true rfl, Nat.le_of_ble_eq_true rfl⟩ ⟨rfl, rfl⟩ ⟨Nat.le_of_ble_eq_true rfl, Nat.le_of_ble_eq_true rfl⟩ rfl rfl ?_
      refine s_X9_its hL (by omega) (by omega) (by omega) (by omega) ?_
      refine zv_goto C 67 dX9_upTo_49 rfl ?_
      refine zv_ireturn C dX9_upTo_67 rfl rfl rfl rfl ?_
      simp only [zUp, mIt] at hp
      first | (rw [if_pos (by omega)] at hp; exact hp) | (rw [if_neg (by omega), if_pos (by omega)] at hp; exact hp) | (rw [if_neg (by omega), if_neg (by omega)] at hp; exact hp)
  · refine zv_iconst C dX9_upTo_33 rfl ?_
    refine zv_goto C 67 dX9_upTo_34 rfl ?_
    refine zv_ireturn C dX9_upTo_67 rfl rfl rfl rfl ?_
    simp only [zUp, mIt] at hp
    first | (rw [if_pos (by omega)] at hp; exact hp) | (rw [if_neg (by omega), if_pos (by omega)] at hp; exact hp) | (rw [if_neg (by omega), if_neg (by omega)] at hp; exact hp)
set_option maxRecDepth 20000 in
theorem s_X9_part {T : zTt} {FR : zFR} {AR : zAR} {FI : zFI} {AI : zAI} {Post : zPost} {i y : Int} (hL : mLay T FR) (g0 : 0 ≤ i) (g1 : i < 30) (gw : wI (mIt (AI 111)) i) (g2 : -1 ≤ y) (g3 : y ≤ 40) (hp : Post (zI (zPart (mIt (AI 111)) i y)) T FR AR FI AI) : zMet M_X9_part [zR 100, zI i, zI y] T FR AR FI AI Post := by
  refine zMet.of [some (zR 100), some (zI i), some (zI y)] rfl rfl rfl (fun G C => ?_)
  have b1 : 0 ≤ zUp (mIt (AI 111)) i y ∧ zUp (mIt (AI 111)) i y ≤ AI 111 (245 + 5 * i + 2) := zUp_b gw y
  have b2 : 0 ≤ zUp (mIt (AI 111)) i (y - 1) ∧ zUp (mIt (AI 111)) i (y - 1) ≤ AI 111 (245 + 5 * i + 2) := zUp_b gw (y - 1)
  obtain ⟨-, -, w1, w2⟩ := id gw
  simp only [mIt] at w1 w2
  refine zv_aload_n C dX9_part_0 rfl rfl ?_
  refine zv_iload_n C dX9_part_1 rfl ?_
  refine zv_iload_n C dX9_part_2 rfl ?_
  refine zv_cVi0_2 C dX9_part_3 k_X9_upTo l_X9_183 hL.1 rfl ⟨Nat.le_of_ble_eq_true rfl, Nat.le_of_ble_eq_true rfl⟩ ⟨rfl, rfl⟩ ⟨Nat.le_of_ble_eq_true rfl, Nat.le_of_ble_eq_true rfl⟩ rfl rfl ?_
  refine s_X9_upTo hL (by omega) (by omega) (by assumption) (by omega) (by omega) ?_
  refine zv_aload_n C dX9_part_6 rfl rfl ?_
  refine zv_iload_n C dX9_part_7 rfl ?_
  refine zv_iload_n C dX9_part_8 rfl ?_
  refine zv_iconst C dX9_part_9 rfl ?_
  refine zv_isub C dX9_part_10 ⟨by omega, by omega⟩ ?_
  refine zv_cVi0_2 C dX9_part_11 k_X9_upTo l_X9_183 hL.1 rfl ⟨Nat.le_of_ble_eq_true rfl, Nat.le_of_ble_eq_true rfl⟩ ⟨rfl, rfl⟩ ⟨Nat.le_of_ble_eq_true rfl, Nat.le_of_ble_eq_true rfl⟩ rfl rfl ?_
  refine s_X9_upTo hL (by omega) (by omega) (by assumption) (by omega) (by omega) ?_
  refine zv_isub C dX9_part_14 ⟨by omega, by omega⟩ ?_
  refine zv_ireturn C dX9_part_15 rfl rfl rfl rfl ?_
  exact hp
set_option maxRecDepth 20000 in
theorem s_X9_openOf {T : zTt} {FR : zFR} {AR : zAR} {FI : zFI} {AI : zAI} {Post : zPost} {i : Int} (hL : mLay T FR) (g0 : 0 ≤ i) (g1 : i < 30) (gw : wI (mIt (AI 111)) i) (g2 : 0 ≤ AI 111 0) (g3 : AI 111 0 ≤ 39) (hp : Post (zI (zOpen (mIt (AI 111)) (AI 111 0) i)) T FR AR FI AI) : zMet M_X9_openOf [zR 100, zI i] T FR AR FI AI Post := by
  refine zMet.of [some (zR 100), some (zI i)] rfl rfl rfl (fun G C => ?_)
  have b1 : 0 ≤ zUp (mIt (AI 111)) i (AI 111 0) ∧ zUp (mIt (AI 111)) i (AI 111 0) ≤ AI 111 (245 + 5 * i + 2) := zUp_b gw (AI 111 0)
  obtain ⟨-, -, w1, w2⟩ := id gw
  simp only [mIt] at w1 w2
  refine zv_aload_n C dX9_openOf_0 rfl rfl ?_
  refine zv_iload_n C dX9_openOf_1 rfl ?_
  refine zv_iconst C dX9_openOf_2 rfl ?_
  refine zv_cVi0_2 C dX9_openOf_3 k_X9_its l_X9_179 hL.1 rfl ⟨Nat.le_of_ble_eq_true rfl, Nat.le_of_ble_eq_true rfl⟩ ⟨rfl, rfl⟩ ⟨Nat.le_of_ble_eq_true rfl, Nat.le_of_ble_eq_true rfl⟩ rfl rfl ?_
  refine s_X9_its hL (by omega) (by omega) (by omega) (by omega) ?_
  refine zv_aload_n C dX9_openOf_6 rfl rfl ?_
  refine zv_iload_n C dX9_openOf_7 rfl ?_
  refine zv_aload_n C dX9_openOf_8 rfl rfl ?_
  refine zv_getR C dX9_openOf_9 f_X9_74 hL.1 rfl hL.2.2.2.2.2.2.2.2.2.2.2.2.2.2.2.1 ?_
  refine zv_iconst C dX9_openOf_12 rfl ?_
  refine zv_iaload C dX9_openOf_13 hL.2.2.1 ⟨by omega, by omega⟩ ?_
  refine zv_cVi0_2 C dX9_openOf_14 k_X9_upTo l_X9_183 hL.1 rfl ⟨Nat.le_of_ble_eq_true rfl, Nat.le_of_ble_eq_true rfl⟩ ⟨rfl, rfl⟩ ⟨Nat.le_of_ble_eq_true rfl, Nat.le_of_ble_eq_true rfl⟩ rfl rfl ?_
  refine s_X9_upTo hL (by omega) (by omega) (by assumption) (by omega) (by omega) ?_
  refine zv_isub C dX9_openOf_17 ⟨by omega, by omega⟩ ?_
  refine zv_ireturn C dX9_openOf_18 rfl rfl rfl rfl ?_
  exact hp
set_option maxRecDepth 20000 in
theorem s_X9_partsOf {T : zTt} {FR : zFR} {AR : zAR} {FI : zFI} {AI : zAI} {Post : zPost} {o y tx : Int} {nI : Nat}  (hL : mLay T FR) (hn : AI 111 3 = nI) (hn2 : nI ≤ 30) (hw : ∀ i : Int, 0 ≤ i → i < nI → wI (mIt (AI 111)) i) (g2 : -1 ≤ y) (g3 : y ≤ 40) (hp : Post (zI (zPs (mIt (AI 111)) nI o y tx)) T FR AR FI AI) : zMet M_X9_partsOf [zR 100, zI o, zI y, zI tx] T FR AR FI AI Post := by
  refine zMet.of [some (zR 100), some (zI o), some (zI y), some (zI tx), none, none] rfl rfl rfl (fun G C => ?_)
  refine zv_iconst C dX9_partsOf_0 rfl ?_
  refine zv_istore_4 C dX9_partsOf_1 rfl rfl ?_
  refine zv_iconst C dX9_partsOf_3 rfl ?_
  refine zv_istore_5 C dX9_partsOf_4 rfl rfl ?_
  suffices lp : ∀ d j : Nat, j + d = nI → zV G 6 [some (zR 100), some (zI o), some (zI y), some (zI tx), some (zI (zPs (mIt (AI 111)) j o y tx)), some (zI (j : Int))] [] T FR AR FI AI 0 0 from lp nI 0 (by omega)
  intro d
  induction d with
  | zero =>
    intro j hj
    refine zv_iload C dX9_partsOf_6 rfl ?_
    refine zv_aload_n C dX9_partsOf_8 rfl rfl ?_
    refine zv_getR C dX9_partsOf_9 f_X9_74 hL.1 rfl hL.2.2.2.2.2.2.2.2.2.2.2.2.2.2.2.1 ?_
    refine zv_iconst C dX9_partsOf_12 rfl ?_
    refine zv_iaload C dX9_partsOf_13 hL.2.2.1 ⟨by omega, by omega⟩ ?_
    refine zv_icmp_ge C 57 dX9_partsOf_14 rfl (fun h14 => ?_) (fun h14 => absurd h14 (by omega))
    refine zv_iload C dX9_partsOf_57 rfl ?_
    refine zv_ireturn C dX9_partsOf_59 rfl rfl rfl rfl ?_
    have ej : j = nI := by omega
    rw [ej]
    exact hp
  | succ d ih =>
    intro j hj
    have q := ih (j + 1) (by omega)
    have wj := hw j (by omega) (by omega)
    have pb : 0 ≤ zPart (mIt (AI 111)) j y ∧ zPart (mIt (AI 111)) j y ≤ AI 111 (245 + 5 * j + 2) := zPart_b wj y
    have sb := zPs_b (n := j) (fun i h0 h1 => hw i h0 (by omega)) o y tx
    obtain ⟨-, -, w1, w2⟩ := id wj
    simp only [mIt] at w1 w2
    refine zv_iload C dX9_partsOf_6 rfl ?_
    refine zv_aload_n C dX9_partsOf_8 rfl rfl ?_
    refine zv_getR C dX9_partsOf_9 f_X9_74 hL.1 rfl hL.2.2.2.2.2.2.2.2.2.2.2.2.2.2.2.1 ?_
    refine zv_iconst C dX9_partsOf_12 rfl ?_
    refine zv_iaload C dX9_partsOf_13 hL.2.2.1 ⟨by omega, by omega⟩ ?_
    refine zv_icmp_ge C 57 dX9_partsOf_14 rfl (fun h14 => absurd h14 (by omega)) (fun h14 => ?_)
    refine zv_aload_n C dX9_partsOf_17 rfl rfl ?_
    refine zv_iload C dX9_partsOf_18 rfl ?_
    refine zv_iconst C dX9_partsOf_20 rfl ?_
    refine zv_cVi0_2 C dX9_partsOf_21 k_X9_its l_X9_179 hL.1 rfl ⟨Nat.le_of_ble_eq_true rfl, Nat.le_of_ble_eq_true rfl⟩ ⟨rfl, rfl⟩ ⟨Nat.le_of_ble_eq_true rfl, Nat.le_of_ble_eq_true rfl⟩ rfl rfl ?_
    refine s_X9_its hL (by omega) (by omega) (by omega) (by omega) ?_
    refine zv_iload_n C dX9_partsOf_24 rfl ?_
    refine zv_icmp_ne C 51 dX9_partsOf_25 rfl (fun h25 => ?_) (fun h25 => ?_)
    · refine zv_iinc_5 C dX9_partsOf_51 rfl rfl ⟨by omega, by omega⟩ ?_
      refine zv_goto C 6 dX9_partsOf_54 rfl ?_
      first | (rw [zPs_f (by simp only [mIt]; omega)] at q; exact q) | (rw [zPs_t (by simp only [mIt]; omega)] at q; exact q)
    · refine zv_aload_n C dX9_partsOf_28 rfl rfl ?_
      refine zv_iload C dX9_partsOf_29 rfl ?_
      refine zv_iconst C dX9_partsOf_31 rfl ?_
      refine zv_cVi0_2 C dX9_partsOf_32 k_X9_its l_X9_179 hL.1 rfl ⟨Nat.le_of_ble_eq_true rfl, Nat.le_of_ble_eq_true rfl⟩ ⟨rfl, rfl⟩ ⟨Nat.le_of_ble_eq_true rfl, Nat.le_of_ble_eq_true rfl⟩ rfl rfl ?_
      refine s_X9_its hL (by omega) (by omega) (by omega) (by omega) ?_
      refine zv_iload_n C dX9_partsOf_35 rfl ?_
      refine zv_icmp_ne C 51 dX9_partsOf_36 rfl (fun h36 => ?_) (fun h36 => ?_)
      · refine zv_iinc_5 C dX9_partsOf_51 rfl rfl ⟨by omega, by omega⟩ ?_
        refine zv_goto C 6 dX9_partsOf_54 rfl ?_
        first | (rw [zPs_f (by simp only [mIt]; omega)] at q; exact q) | (rw [zPs_t (by simp only [mIt]; omega)] at q; exact q)
      · refine zv_iload C dX9_partsOf_39 rfl ?_
        refine zv_aload_n C dX9_partsOf_41 rfl rfl ?_
        refine zv_iload C dX9_partsOf_42 rfl ?_
        refine zv_iload_n C dX9_partsOf_44 rfl ?_
        refine zv_cVi0_2 C dX9_partsOf_45 k_X9_part l_X9_186 hL.1 rfl ⟨Nat.le_of_ble_eq_true rfl, Nat.le_of_ble_eq_true rfl⟩ ⟨rfl, rfl⟩ ⟨Nat.le_of_ble_eq_true rfl, Nat.le_of_ble_eq_true rfl⟩ rfl rfl ?_
        refine s_X9_part hL (by omega) (by omega) (by assumption) (by omega) (by omega) ?_
        refine zv_iadd C dX9_partsOf_48 ⟨by omega, by omega⟩ ?_
        refine zv_istore_4 C dX9_partsOf_49 rfl rfl ?_
        refine zv_iinc_5 C dX9_partsOf_51 rfl rfl ⟨by omega, by omega⟩ ?_
        refine zv_goto C 6 dX9_partsOf_54 rfl ?_
        first | (rw [zPs_f (by simp only [mIt]; omega)] at q; exact q) | (rw [zPs_t (by simp only [mIt]; omega)] at q; exact q)

set_option maxRecDepth 20000 in
theorem s_X9_setRates {T : zTt} {FR : zFR} {AR : zAR} {FI : zFI} {AI : zAI} {Post : zPost} {s : Nat} {o fr r : Int} (hs : T s = (2, 1395)) (g0 : 0 ≤ o) (g1 : o < 3) (g2 : 0 ≤ fr) (g3 : fr ≤ 40) (hp : Post (zI 0) T FR AR FI (zfill AI s (5 + 40 * o + fr) (5 + 40 * o + 40) r)) : zMet M_X9_setRates [zR s, zI o, zI fr, zI r] T FR AR FI AI Post := by
  refine zMet.of [some (zR s), some (zI o), some (zI fr), some (zI r), none] rfl rfl rfl (fun G C => ?_)
  refine zv_iload_n C dX9_setRates_0 rfl ?_
  refine zv_istore_4 C dX9_setRates_1 rfl rfl ?_
  suffices lp : ∀ (d : Nat) (y : Int), y + d = 40 → fr ≤ y → zV G 3 [some (zR s), some (zI o), some (zI fr), some (zI r), some (zI y)] [] T FR AR FI (zfill AI s (5 + 40 * o + fr) (5 + 40 * o + y) r) 0 0 from by
    have q := lp (40 - fr).toNat fr (by omega) (by omega)
    rw [zfill_0] at q
    exact q
  intro d
  induction d with
  | zero =>
    intro y hj hf
    refine zv_iload C dX9_setRates_3 rfl ?_
    refine zv_bipush C dX9_setRates_5 rfl ?_
    refine zv_icmp_ge C 28 dX9_setRates_7 rfl (fun h7 => ?_) (fun h7 => absurd h7 (by omega))
    refine zv_return C dX9_setRates_28 rfl rfl rfl ?_
    have ej : y = 40 := by omega
    rw [ej]
    exact hp
  | succ d ih =>
    intro y hj hf
    have q := ih (y + 1) (by omega) (by omega)
    refine zv_iload C dX9_setRates_3 rfl ?_
    refine zv_bipush C dX9_setRates_5 rfl ?_
    refine zv_icmp_ge C 28 dX9_setRates_7 rfl (fun h7 => absurd h7 (by omega)) (fun h7 => ?_)
    refine zv_aload_n C dX9_setRates_10 rfl rfl ?_
    refine zv_iconst C dX9_setRates_11 rfl ?_
    refine zv_bipush C dX9_setRates_12 rfl ?_
    refine zv_iload_n C dX9_setRates_14 rfl ?_
    refine zv_imul C dX9_setRates_15 ⟨by omega, by omega⟩ ?_
    refine zv_iadd C dX9_setRates_16 ⟨by omega, by omega⟩ ?_
    refine zv_iload C dX9_setRates_17 rfl ?_
    refine zv_iadd C dX9_setRates_19 ⟨by omega, by omega⟩ ?_
    refine zv_iload_n C dX9_setRates_20 rfl ?_
    refine zv_iastore C dX9_setRates_21 hs ⟨by omega, by omega⟩ ?_
    rw [zfill_step (by omega), show 5 + 40 * o + y + 1 = 5 + 40 * o + (y + 1) by omega]
    refine zv_iinc_4 C dX9_setRates_22 rfl rfl ⟨by omega, by omega⟩ ?_
    refine zv_goto C 3 dX9_setRates_25 rfl ?_
    exact q

