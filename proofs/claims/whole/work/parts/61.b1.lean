set_option maxRecDepth 20000 in
theorem s_X2_hasOffice {T : zTt} {FR : zFR} {AR : zAR} {FI : zFI} {AI : zAI} {Post : zPost} {B : Nat} {N : Int → Int} {x : Int} (hB : bLay T FR B) (hK : bk FI AI B N) (h1 : 0 ≤ x ∧ x ≤ N 2 - 1 → Post (zI 1) T FR AR FI AI) (h0 : ¬ (0 ≤ x ∧ x ≤ N 2 - 1) → Post (zI 0) T FR AR FI AI) : zMet M_X2_hasOffice [zR B, zI x] T FR AR FI AI Post := by
  refine zMet.of [some (zR B), some (zI x)] rfl rfl rfl (fun G C => ?_)
  obtain ⟨k0, k1, k2, k3, k4, k5, k6, k7, k8⟩ := id hK
  refine zv_iload_n C dX2_hasOffice_0 rfl ?_
  refine zv_if_lt C 16 dX2_hasOffice_1 rfl (fun c1 => ?_) (fun c1 => ?_)
  · refine zv_iconst C dX2_hasOffice_16 rfl ?_
    refine zv_ireturn C dX2_hasOffice_17 rfl rfl rfl rfl ?_
    exact h0 (by omega)
  · refine zv_iload_n C dX2_hasOffice_4 rfl ?_
    refine zv_aload_n C dX2_hasOffice_5 rfl rfl ?_
    refine zv_getI C dX2_hasOffice_6 f_X2_24 hB.1 rfl ?_
    refine zv_icmp_ge C 16 dX2_hasOffice_9 rfl (fun h9 => ?_) (fun h9 => ?_)
    · refine zv_iconst C dX2_hasOffice_16 rfl ?_
      refine zv_ireturn C dX2_hasOffice_17 rfl rfl rfl rfl ?_
      exact h0 (by omega)
    · refine zv_iconst C dX2_hasOffice_12 rfl ?_
      refine zv_goto C 17 dX2_hasOffice_13 rfl ?_
      refine zv_ireturn C dX2_hasOffice_17 rfl rfl rfl rfl ?_
      exact h1 (by omega)
set_option maxRecDepth 20000 in
theorem s_X2_hasItem {T : zTt} {FR : zFR} {AR : zAR} {FI : zFI} {AI : zAI} {Post : zPost} {B : Nat} {N : Int → Int} {x : Int} (hB : bLay T FR B) (hK : bk FI AI B N) (h1 : 0 ≤ x ∧ x ≤ N 3 - 1 → Post (zI 1) T FR AR FI AI) (h0 : ¬ (0 ≤ x ∧ x ≤ N 3 - 1) → Post (zI 0) T FR AR FI AI) : zMet M_X2_hasItem [zR B, zI x] T FR AR FI AI Post := by
  refine zMet.of [some (zR B), some (zI x)] rfl rfl rfl (fun G C => ?_)
  obtain ⟨k0, k1, k2, k3, k4, k5, k6, k7, k8⟩ := id hK
  refine zv_iload_n C dX2_hasItem_0 rfl ?_
  refine zv_if_lt C 16 dX2_hasItem_1 rfl (fun c1 => ?_) (fun c1 => ?_)
  · refine zv_iconst C dX2_hasItem_16 rfl ?_
    refine zv_ireturn C dX2_hasItem_17 rfl rfl rfl rfl ?_
    exact h0 (by omega)
  · refine zv_iload_n C dX2_hasItem_4 rfl ?_
    refine zv_aload_n C dX2_hasItem_5 rfl rfl ?_
    refine zv_getI C dX2_hasItem_6 f_X2_34 hB.1 rfl ?_
    refine zv_icmp_ge C 16 dX2_hasItem_9 rfl (fun h9 => ?_) (fun h9 => ?_)
    · refine zv_iconst C dX2_hasItem_16 rfl ?_
      refine zv_ireturn C dX2_hasItem_17 rfl rfl rfl rfl ?_
      exact h0 (by omega)
    · refine zv_iconst C dX2_hasItem_12 rfl ?_
      refine zv_goto C 17 dX2_hasItem_13 rfl ?_
      refine zv_ireturn C dX2_hasItem_17 rfl rfl rfl rfl ?_
      exact h1 (by omega)
set_option maxRecDepth 20000 in
theorem s_X2_hasLoss {T : zTt} {FR : zFR} {AR : zAR} {FI : zFI} {AI : zAI} {Post : zPost} {B : Nat} {N : Int → Int} {x : Int} (hB : bLay T FR B) (hK : bk FI AI B N) (h1 : 0 ≤ x ∧ x ≤ N 4 - 1 → Post (zI 1) T FR AR FI AI) (h0 : ¬ (0 ≤ x ∧ x ≤ N 4 - 1) → Post (zI 0) T FR AR FI AI) : zMet M_X2_hasLoss [zR B, zI x] T FR AR FI AI Post := by
  refine zMet.of [some (zR B), some (zI x)] rfl rfl rfl (fun G C => ?_)
  obtain ⟨k0, k1, k2, k3, k4, k5, k6, k7, k8⟩ := id hK
  refine zv_iload_n C dX2_hasLoss_0 rfl ?_
  refine zv_if_lt C 16 dX2_hasLoss_1 rfl (fun c1 => ?_) (fun c1 => ?_)
  · refine zv_iconst C dX2_hasLoss_16 rfl ?_
    refine zv_ireturn C dX2_hasLoss_17 rfl rfl rfl rfl ?_
    exact h0 (by omega)
  · refine zv_iload_n C dX2_hasLoss_4 rfl ?_
    refine zv_aload_n C dX2_hasLoss_5 rfl rfl ?_
    refine zv_getI C dX2_hasLoss_6 f_X2_37 hB.1 rfl ?_
    refine zv_icmp_ge C 16 dX2_hasLoss_9 rfl (fun h9 => ?_) (fun h9 => ?_)
    · refine zv_iconst C dX2_hasLoss_16 rfl ?_
      refine zv_ireturn C dX2_hasLoss_17 rfl rfl rfl rfl ?_
      exact h0 (by omega)
    · refine zv_iconst C dX2_hasLoss_12 rfl ?_
      refine zv_goto C 17 dX2_hasLoss_13 rfl ?_
      refine zv_ireturn C dX2_hasLoss_17 rfl rfl rfl rfl ?_
      exact h1 (by omega)
set_option maxRecDepth 20000 in
theorem s_X2_isItemOf {T : zTt} {FR : zFR} {AR : zAR} {FI : zFI} {AI : zAI} {Post : zPost} {B : Nat} {N : Int → Int} {i o : Int} (hB : bLay T FR B) (hK : bk FI AI B N) (g0 : 0 ≤ i) (g1 : i < N 3) (g3 : N 3 ≤ 30) (h1 : N (245 + 5 * i + 0) = o → Post (zI 1) T FR AR FI AI) (h0 : ¬ (N (245 + 5 * i + 0) = o) → Post (zI 0) T FR AR FI AI) : zMet M_X2_isItemOf [zR B, zI i, zI o] T FR AR FI AI Post := by
  refine zMet.of [some (zR B), some (zI i), some (zI o)] rfl rfl rfl (fun G C => ?_)
  obtain ⟨k0, k1, k2, k3, k4, k5, k6, k7, k8⟩ := id hK
  refine zv_aload_n C dX2_isItemOf_0 rfl rfl ?_
  refine zv_getR C dX2_isItemOf_1 f_X2_18 hB.1 rfl hB.2.2.2.2.2.2.2.1 ?_
  refine zv_iload_n C dX2_isItemOf_4 rfl ?_
  refine zv_iconst C dX2_isItemOf_5 rfl ?_
  refine zv_imul C dX2_isItemOf_6 ⟨by omega, by omega⟩ ?_
  refine zv_iconst C dX2_isItemOf_7 rfl ?_
  refine zv_iadd C dX2_isItemOf_8 ⟨by omega, by omega⟩ ?_
  refine zv_iaload C dX2_isItemOf_9 hB.2.2.2.1 ⟨by omega, by omega⟩ ?_
  rw [k7 i 0 g0 g1 (by omega) (by omega)]
  refine zv_iload_n C dX2_isItemOf_10 rfl ?_
  refine zv_icmp_ne C 18 dX2_isItemOf_11 rfl (fun h11 => ?_) (fun h11 => ?_)
  · refine zv_iconst C dX2_isItemOf_18 rfl ?_
    refine zv_ireturn C dX2_isItemOf_19 rfl rfl rfl rfl ?_
    exact h0 (by omega)
  · refine zv_iconst C dX2_isItemOf_14 rfl ?_
    refine zv_goto C 19 dX2_isItemOf_15 rfl ?_
    refine zv_ireturn C dX2_isItemOf_19 rfl rfl rfl rfl ?_
    exact h1 (by omega)
set_option maxRecDepth 20000 in
theorem s_X2_isTaxable {T : zTt} {FR : zFR} {AR : zAR} {FI : zFI} {AI : zAI} {Post : zPost} {B : Nat} {N : Int → Int} {i : Int} (hB : bLay T FR B) (hK : bk FI AI B N) (g0 : 0 ≤ i) (g1 : i < N 3) (g3 : N 3 ≤ 30) (h1 : N (245 + 5 * i + 1) = 1 → Post (zI 1) T FR AR FI AI) (h0 : ¬ (N (245 + 5 * i + 1) = 1) → Post (zI 0) T FR AR FI AI) : zMet M_X2_isTaxable [zR B, zI i] T FR AR FI AI Post := by
  refine zMet.of [some (zR B), some (zI i)] rfl rfl rfl (fun G C => ?_)
  obtain ⟨k0, k1, k2, k3, k4, k5, k6, k7, k8⟩ := id hK
  refine zv_aload_n C dX2_isTaxable_0 rfl rfl ?_
  refine zv_getR C dX2_isTaxable_1 f_X2_18 hB.1 rfl hB.2.2.2.2.2.2.2.1 ?_
  refine zv_iload_n C dX2_isTaxable_4 rfl ?_
  refine zv_iconst C dX2_isTaxable_5 rfl ?_
  refine zv_imul C dX2_isTaxable_6 ⟨by omega, by omega⟩ ?_
  refine zv_iconst C dX2_isTaxable_7 rfl ?_
  refine zv_iadd C dX2_isTaxable_8 ⟨by omega, by omega⟩ ?_
  refine zv_iaload C dX2_isTaxable_9 hB.2.2.2.1 ⟨by omega, by omega⟩ ?_
  rw [k7 i 1 g0 g1 (by omega) (by omega)]
  refine zv_iconst C dX2_isTaxable_10 rfl ?_
  refine zv_icmp_ne C 18 dX2_isTaxable_11 rfl (fun h11 => ?_) (fun h11 => ?_)
  · refine zv_iconst C dX2_isTaxable_18 rfl ?_
    refine zv_ireturn C dX2_isTaxable_19 rfl rfl rfl rfl ?_
    exact h0 (by omega)
  · refine zv_iconst C dX2_isTaxable_14 rfl ?_
    refine zv_goto C 19 dX2_isTaxable_15 rfl ?_
    refine zv_ireturn C dX2_isTaxable_19 rfl rfl rfl rfl ?_
    exact h1 (by omega)
set_option maxRecDepth 20000 in
theorem s_X2_lastOf {T : zTt} {FR : zFR} {AR : zAR} {FI : zFI} {AI : zAI} {Post : zPost} {B : Nat} {N : Int → Int} {i : Int} (hB : bLay T FR B) (hK : bk FI AI B N) (g0 : 0 ≤ i) (g1 : i < N 3) (g3 : N 3 ≤ 30) (hp : Post (zI (N (245 + 5 * i + 4))) T FR AR FI AI) : zMet M_X2_lastOf [zR B, zI i] T FR AR FI AI Post := by
  refine zMet.of [some (zR B), some (zI i)] rfl rfl rfl (fun G C => ?_)
  obtain ⟨k0, k1, k2, k3, k4, k5, k6, k7, k8⟩ := id hK
  refine zv_aload_n C dX2_lastOf_0 rfl rfl ?_
  refine zv_getR C dX2_lastOf_1 f_X2_18 hB.1 rfl hB.2.2.2.2.2.2.2.1 ?_
  refine zv_iload_n C dX2_lastOf_4 rfl ?_
  refine zv_iconst C dX2_lastOf_5 rfl ?_
  refine zv_imul C dX2_lastOf_6 ⟨by omega, by omega⟩ ?_
  refine zv_iconst C dX2_lastOf_7 rfl ?_
  refine zv_iadd C dX2_lastOf_8 ⟨by omega, by omega⟩ ?_
  refine zv_iaload C dX2_lastOf_9 hB.2.2.2.1 ⟨by omega, by omega⟩ ?_
  rw [k7 i 4 g0 g1 (by omega) (by omega)]
  refine zv_ireturn C dX2_lastOf_10 rfl rfl rfl rfl ?_
  exact hp
set_option maxRecDepth 20000 in
theorem s_X2_partsUpTo {T : zTt} {FR : zFR} {AR : zAR} {FI : zFI} {AI : zAI} {Post : zPost} {B : Nat} {N : Int → Int} {i y : Int} (hB : bLay T FR B) (hK : bk FI AI B N) (g0 : 0 ≤ i) (g1 : i < N 3) (g3 : N 3 ≤ 30) (gw : wI (mIt N) i) (g4 : -2 ≤ y) (g5 : y ≤ 40) (hp : Post (zI (zUp (mIt N) i y)) T FR AR FI AI) : zMet M_X2_partsUpTo [zR B, zI i, zI y] T FR AR FI AI Post := by
  refine zMet.of [some (zR B), some (zI i), some (zI y), none, none, none, none] rfl rfl rfl (fun G C => ?_)
  obtain ⟨k0, k1, k2, k3, k4, k5, k6, k7, k8⟩ := id hK
  obtain ⟨-, -, w1, w2⟩ := id gw
  simp only [mIt] at w1 w2
  refine zv_iload_n C dX2_partsUpTo_0 rfl ?_
  refine zv_iconst C dX2_partsUpTo_1 rfl ?_
  refine zv_imul C dX2_partsUpTo_2 ⟨by omega, by omega⟩ ?_
  refine zv_istore_3 C dX2_partsUpTo_3 rfl rfl ?_
  refine zv_aload_n C dX2_partsUpTo_4 rfl rfl ?_
  refine zv_getR C dX2_partsUpTo_5 f_X2_18 hB.1 rfl hB.2.2.2.2.2.2.2.1 ?_
  refine zv_iload_n C dX2_partsUpTo_8 rfl ?_
  refine zv_iconst C dX2_partsUpTo_9 rfl ?_
  refine zv_iadd C dX2_partsUpTo_10 ⟨by omega, by omega⟩ ?_
  refine zv_iaload C dX2_partsUpTo_11 hB.2.2.2.1 ⟨by omega, by omega⟩ ?_
  rw [k7 i 3 g0 g1 (by omega) (by omega)]
  refine zv_istore_4 C dX2_partsUpTo_12 rfl rfl ?_
  refine zv_aload_n C dX2_partsUpTo_14 rfl rfl ?_
  refine zv_getR C dX2_partsUpTo_15 f_X2_18 hB.1 rfl hB.2.2.2.2.2.2.2.1 ?_
  refine zv_iload_n C dX2_partsUpTo_18 rfl ?_
  refine zv_iconst C dX2_partsUpTo_19 rfl ?_
  refine zv_iadd C dX2_partsUpTo_20 ⟨by omega, by omega⟩ ?_
  refine zv_iaload C dX2_partsUpTo_21 hB.2.2.2.1 ⟨by omega, by omega⟩ ?_
  rw [k7 i 4 g0 g1 (by omega) (by omega)]
  refine zv_iload C dX2_partsUpTo_22 rfl ?_
  refine zv_isub C dX2_partsUpTo_24 ⟨by omega, by omega⟩ ?_
  refine zv_iconst C dX2_partsUpTo_25 rfl ?_
  refine zv_iadd C dX2_partsUpTo_26 ⟨by omega, by omega⟩ ?_
  refine zv_istore_5 C dX2_partsUpTo_27 rfl rfl ?_
  refine zv_iload_n C dX2_partsUpTo_29 rfl ?_
  refine zv_iload C dX2_partsUpTo_30 rfl ?_
  refine zv_isub C dX2_partsUpTo_32 ⟨by omega, by omega⟩ ?_
  refine zv_iconst C dX2_partsUpTo_33 rfl ?_
  refine zv_iadd C dX2_partsUpTo_34 ⟨by omega, by omega⟩ ?_
  refine zv_istore_6 C dX2_partsUpTo_35 rfl rfl ?_
  refine zv_iload C dX2_partsUpTo_37 rfl ?_
  refine zv_if_le C 47 dX2_partsUpTo_39 rfl (fun h39 => ?_) (fun h39 => ?_)
  · refine zv_iconst C dX2_partsUpTo_47 rfl ?_
    refine zv_ireturn C dX2_partsUpTo_48 rfl rfl rfl rfl ?_
    simp only [zUp, mIt] at hp
    first | (rw [if_pos (by omega)] at hp; exact hp) | (rw [if_neg (by omega), if_pos (by omega)] at hp; exact hp) | (rw [if_neg (by omega), if_neg (by omega)] at hp; exact hp)
  · refine zv_iload C dX2_partsUpTo_42 rfl ?_
    refine zv_if_gt C 49 dX2_partsUpTo_44 rfl (fun h44 => ?_) (fun h44 => ?_)
    · refine zv_iload C dX2_partsUpTo_49 rfl ?_
      refine zv_iload C dX2_partsUpTo_51 rfl ?_
      refine zv_icmp_lt C 67 dX2_partsUpTo_53 rfl (fun h53 => ?_) (fun h53 => ?_)
      · refine zv_aload_n C dX2_partsUpTo_67 rfl rfl ?_
        refine zv_getR C dX2_partsUpTo_68 f_X2_18 hB.1 rfl hB.2.2.2.2.2.2.2.1 ?_
        refine zv_iload_n C dX2_partsUpTo_71 rfl ?_
        refine zv_iconst C dX2_partsUpTo_72 rfl ?_
        refine zv_iadd C dX2_partsUpTo_73 ⟨by omega, by omega⟩ ?_
        refine zv_iaload C dX2_partsUpTo_74 hB.2.2.2.1 ⟨by omega, by omega⟩ ?_
        rw [k7 i 2 g0 g1 (by omega) (by omega)]
        have hm := zmulb (A := 99999) (B := 40) w1.1 w1.2 (b := y - N (245 + 5 * i + 3) + 1) (by omega) (by omega)
        refine zv_iload C dX2_partsUpTo_75 rfl ?_
        refine zv_imul C dX2_partsUpTo_77 ⟨by omega, by omega⟩ ?_
        refine zv_iload C dX2_partsUpTo_78 rfl ?_
        refine zv_idiv C dX2_partsUpTo_80 (by omega) (by omega) ?_
        refine zv_ireturn C dX2_partsUpTo_81 rfl rfl rfl rfl ?_
        simp only [zUp, mIt] at hp
        first | (rw [if_pos (by omega)] at hp; exact hp) | (rw [if_neg (by omega), if_pos (by omega)] at hp; exact hp) | (rw [if_neg (by omega), if_neg (by omega)] at hp; exact hp)
      · refine zv_aload_n C dX2_partsUpTo_56 rfl rfl ?_
        refine zv_getR C dX2_partsUpTo_57 f_X2_18 hB.1 rfl hB.2.2.2.2.2.2.2.1 ?_
        refine zv_iload_n C dX2_partsUpTo_60 rfl ?_
        refine zv_iconst C dX2_partsUpTo_61 rfl ?_
        refine zv_iadd C dX2_partsUpTo_62 ⟨by omega, by omega⟩ ?_
        refine zv_iaload C dX2_partsUpTo_63 hB.2.2.2.1 ⟨by omega, by omega⟩ ?_
        rw [k7 i 2 g0 g1 (by omega) (by omega)]
        refine zv_goto C 81 dX2_partsUpTo_64 rfl ?_
        refine zv_ireturn C dX2_partsUpTo_81 rfl rfl rfl rfl ?_
        simp only [zUp, mIt] at hp
        first | (rw [if_pos (by omega)] at hp; exact hp) | (rw [if_neg (by omega), if_pos (by omega)] at hp; exact hp) | (rw [if_neg (by omega), if_neg (by omega)] at hp; exact hp)
    · refine zv_iconst C dX2_partsUpTo_47 rfl ?_
      refine zv_ireturn C dX2_partsUpTo_48 rfl rfl rfl rfl ?_
      simp only [zUp, mIt] at hp
      first | (rw [if_pos (by omega)] at hp; exact hp) | (rw [if_neg (by omega), if_pos (by omega)] at hp; exact hp) | (rw [if_neg (by omega), if_neg (by omega)] at hp; exact hp)
set_option maxRecDepth 20000 in
theorem s_X2_partOf {T : zTt} {FR : zFR} {AR : zAR} {FI : zFI} {AI : zAI} {Post : zPost} {B : Nat} {N : Int → Int} {i y : Int} (hB : bLay T FR B) (hK : bk FI AI B N) (g0 : 0 ≤ i) (g1 : i < N 3) (g3 : N 3 ≤ 30) (gw : wI (mIt N) i) (g4 : -1 ≤ y) (g5 : y ≤ 40) (hp : Post (zI (zPart (mIt N) i y)) T FR AR FI AI) : zMet M_X2_partOf [zR B, zI i, zI y] T FR AR FI AI Post := by
  refine zMet.of [some (zR B), some (zI i), some (zI y)] rfl rfl rfl (fun G C => ?_)
  have b1 := zUp_b gw y
  have b2 := zUp_b gw (y - 1)
  obtain ⟨-, -, w1, w2⟩ := id gw
  refine zv_aload_n C dX2_partOf_0 rfl rfl ?_
  refine zv_iload_n C dX2_partOf_1 rfl ?_
  refine zv_iload_n C dX2_partOf_2 rfl ?_
  refine zv_cVi0_2 C dX2_partOf_3 k_X2_partsUpTo l_X2_46 hB.1 rfl ⟨Nat.le_of_ble_eq_true rfl, Nat.le_of_ble_eq_true rfl⟩ ⟨rfl, rfl⟩ ⟨Nat.le_of_ble_eq_true rfl, Nat.le_of_ble_eq_true rfl⟩ rfl rfl ?_
  refine s_X2_partsUpTo hB hK g0 g1 g3 gw (by omega) (by omega) ?_
  refine zv_aload_n C dX2_partOf_6 rfl rfl ?_
  refine zv_iload_n C dX2_partOf_7 rfl ?_
  refine zv_iload_n C dX2_partOf_8 rfl ?_
  refine zv_iconst C dX2_partOf_9 rfl ?_
  refine zv_isub C dX2_partOf_10 ⟨by omega, by omega⟩ ?_
  refine zv_cVi0_2 C dX2_partOf_11 k_X2_partsUpTo l_X2_46 hB.1 rfl ⟨Nat.le_of_ble_eq_true rfl, Nat.le_of_ble_eq_true rfl⟩ ⟨rfl, rfl⟩ ⟨Nat.le_of_ble_eq_true rfl, Nat.le_of_ble_eq_true rfl⟩ rfl rfl ?_
  refine s_X2_partsUpTo hB hK g0 g1 g3 gw (by omega) (by omega) ?_
  refine zv_isub C dX2_partOf_14 ⟨by omega, by omega⟩ ?_
  refine zv_ireturn C dX2_partOf_15 rfl rfl rfl rfl ?_
  exact hp
set_option maxRecDepth 20000 in
theorem s_X2_openOf {T : zTt} {FR : zFR} {AR : zAR} {FI : zFI} {AI : zAI} {Post : zPost} {B : Nat} {N : Int → Int} {i : Int} (hB : bLay T FR B) (hK : bk FI AI B N) (g0 : 0 ≤ i) (g1 : i < N 3) (g3 : N 3 ≤ 30) (gw : wI (mIt N) i) (g4 : 0 ≤ N 0) (g5 : N 0 ≤ 39) (hp : Post (zI (zOpen (mIt N) (N 0) i)) T FR AR FI AI) : zMet M_X2_openOf [zR B, zI i] T FR AR FI AI Post := by
  refine zMet.of [some (zR B), some (zI i)] rfl rfl rfl (fun G C => ?_)
  obtain ⟨k0, k1, k2, k3, k4, k5, k6, k7, k8⟩ := id hK
  have b1 := zUp_b gw (N 0)
  obtain ⟨-, -, w1, w2⟩ := id gw
  have e2 : mIt N i 2 = N (245 + 5 * i + 2) := rfl
  rw [e2] at b1 w1
  refine zv_aload_n C dX2_openOf_0 rfl rfl ?_
  refine zv_getR C dX2_openOf_1 f_X2_18 hB.1 rfl hB.2.2.2.2.2.2.2.1 ?_
  refine zv_iload_n C dX2_openOf_4 rfl ?_
  refine zv_iconst C dX2_openOf_5 rfl ?_
  refine zv_imul C dX2_openOf_6 ⟨by omega, by omega⟩ ?_
  refine zv_iconst C dX2_openOf_7 rfl ?_
  refine zv_iadd C dX2_openOf_8 ⟨by omega, by omega⟩ ?_
  refine zv_iaload C dX2_openOf_9 hB.2.2.2.1 ⟨by omega, by omega⟩ ?_
  rw [k7 i 2 g0 g1 (by omega) (by omega)]
  refine zv_aload_n C dX2_openOf_10 rfl rfl ?_
  refine zv_iload_n C dX2_openOf_11 rfl ?_
  refine zv_aload_n C dX2_openOf_12 rfl rfl ?_
  refine zv_getI C dX2_openOf_13 f_X2_28 hB.1 rfl ?_
  rw [k0]
  refine zv_cVi0_2 C dX2_openOf_16 k_X2_partsUpTo l_X2_46 hB.1 rfl ⟨Nat.le_of_ble_eq_true rfl, Nat.le_of_ble_eq_true rfl⟩ ⟨rfl, rfl⟩ ⟨Nat.le_of_ble_eq_true rfl, Nat.le_of_ble_eq_true rfl⟩ rfl rfl ?_
  refine s_X2_partsUpTo hB hK g0 g1 g3 gw (by omega) (by omega) ?_
  refine zv_isub C dX2_openOf_19 ⟨by omega, by omega⟩ ?_
  refine zv_ireturn C dX2_openOf_20 rfl rfl rfl rfl ?_
  exact hp
set_option maxRecDepth 20000 in
theorem s_X2_itemsWithNothingOpen {T : zTt} {FR : zFR} {AR : zAR} {FI : zFI} {AI : zAI} {Post : zPost} {B : Nat} {N : Int → Int} {nI nL : Nat}  (hB : bLay T FR B) (hK : bk FI AI B N) (hW : mW N nI nL) (hp : Post (zI (mDone N nI)) T FR AR FI AI) : zMet M_X2_itemsWithNothingOpen [zR B] T FR AR FI AI Post := by
  refine zMet.of [some (zR B), none, none] rfl rfl rfl (fun G C => ?_)
  obtain ⟨k0, k1, k2, k3, k4, k5, k6, k7, k8⟩ := id hK
  obtain ⟨w0, w1, w2, w3, w4, w5, w6, w7, w8, w9⟩ := id hW
  generalize hf : (fun i => if zOpen (mIt N) (N 0) i = 0 then (1 : Int) else 0) = f
  have hp2 : Post (zI (zS f nI)) T FR AR FI AI := by rw [← hf]; exact hp
  have fb : ∀ i : Int, f i = (if zOpen (mIt N) (N 0) i = 0 then 1 else 0) ∧ 0 ≤ f i ∧ f i ≤ 1 := fun i => by
    refine ⟨by rw [← hf], ?_⟩
    rw [← hf]; dsimp only; split <;> omega
  refine zv_iconst C dX2_itemsWithNothingOpen_0 rfl ?_
  refine zv_istore_1 C dX2_itemsWithNothingOpen_1 rfl rfl ?_
  refine zv_iconst C dX2_itemsWithNothingOpen_2 rfl ?_
  refine zv_istore_2 C dX2_itemsWithNothingOpen_3 rfl rfl ?_
  suffices lp : ∀ d j : Nat, j + d = nI → zV G 4 [some (zR B), some (zI (zS f j)), some (zI (j : Int))] [] T FR AR FI AI 0 0 from lp nI 0 (by omega)
  intro d
  induction d with
  | zero =>
    intro j hj
    have ej : j = nI := by omega
    subst ej
    refine zv_iload_n C dX2_itemsWithNothingOpen_4 rfl ?_
    refine zv_aload_n C dX2_itemsWithNothingOpen_5 rfl rfl ?_
    refine zv_getI C dX2_itemsWithNothingOpen_6 f_X2_34 hB.1 rfl ?_
    refine zv_icmp_ge C 29 dX2_itemsWithNothingOpen_9 rfl (fun h9 => ?_) (fun h9 => absurd h9 (by omega))
    refine zv_iload_n C dX2_itemsWithNothingOpen_29 rfl ?_
    refine zv_ireturn C dX2_itemsWithNothingOpen_30 rfl rfl rfl rfl ?_
    exact hp2
  | succ d ih =>
    intro j hj
    have q := ih (j + 1) (by omega)
    have f1 := (fb j).1
    have s1 := zS_nn (f := f) j (fun i _ _ => (fb i).2.1)
    have s2 := zS_ub (f := f) (c := 1) j (fun i _ _ => (fb i).2.2)
    refine zv_iload_n C dX2_itemsWithNothingOpen_4 rfl ?_
    refine zv_aload_n C dX2_itemsWithNothingOpen_5 rfl rfl ?_
    refine zv_getI C dX2_itemsWithNothingOpen_6 f_X2_34 hB.1 rfl ?_
    refine zv_icmp_ge C 29 dX2_itemsWithNothingOpen_9 rfl (fun h9 => absurd h9 (by omega)) (fun h9 => ?_)
    refine zv_aload_n C dX2_itemsWithNothingOpen_12 rfl rfl ?_
    refine zv_iload_n C dX2_itemsWithNothingOpen_13 rfl ?_
    refine zv_cVi0_1 C dX2_itemsWithNothingOpen_14 k_X2_openOf l_X2_50 hB.1 rfl ⟨Nat.le_of_ble_eq_true rfl, Nat.le_of_ble_eq_true rfl⟩ ⟨rfl, rfl⟩ ⟨Nat.le_of_ble_eq_true rfl, Nat.le_of_ble_eq_true rfl⟩ rfl rfl ?_
    refine s_X2_openOf hB hK (by omega) (by omega) (by omega) (w8 j (by omega) (by omega)) (by omega) (by omega) ?_
    refine zv_if_ne C 23 dX2_itemsWithNothingOpen_17 rfl (fun h17 => ?_) (fun h17 => ?_)
    · refine zv_iinc_2 C dX2_itemsWithNothingOpen_23 rfl rfl ⟨by omega, by omega⟩ ?_
      refine zv_goto C 4 dX2_itemsWithNothingOpen_26 rfl ?_
      first | (rw [if_pos (by omega)] at f1; rw [zS_t f1] at q; exact q) | (rw [if_neg (by omega)] at f1; rw [zS_f f1] at q; exact q)
    · refine zv_iinc_1 C dX2_itemsWithNothingOpen_20 rfl rfl ⟨by omega, by omega⟩ ?_
      refine zv_iinc_2 C dX2_itemsWithNothingOpen_23 rfl rfl ⟨by omega, by omega⟩ ?_
      refine zv_goto C 4 dX2_itemsWithNothingOpen_26 rfl ?_
      first | (rw [if_pos (by omega)] at f1; rw [zS_t f1] at q; exact q) | (rw [if_neg (by omega)] at f1; rw [zS_f f1] at q; exact q)

set_option maxRecDepth 20000 in
theorem s_X2_leftOf {T : zTt} {FR : zFR} {AR : zAR} {FI : zFI} {AI : zAI} {Post : zPost} {B : Nat} {N : Int → Int} {l o t : Int} (hB : bLay T FR B) (hK : bk FI AI B N) (g0 : 0 ≤ l) (g1 : l < N 4) (g3 : N 4 ≤ 10) (hp : Post (zI (if N (395 + 4 * l + 0) = o ∧ N (395 + 4 * l + 2) = t then N (395 + 4 * l + 3) else 0)) T FR AR FI AI) : zMet M_X2_leftOf [zR B, zI l, zI o, zI t] T FR AR FI AI Post := by
  refine zMet.of [some (zR B), some (zI l), some (zI o), some (zI t), none, none] rfl rfl rfl (fun G C => ?_)
  obtain ⟨k0, k1, k2, k3, k4, k5, k6, k7, k8⟩ := id hK
  refine zv_iload_n C dX2_leftOf_0 rfl ?_
  refine zv_iconst C dX2_leftOf_1 rfl ?_
  refine zv_imul C dX2_leftOf_2 ⟨by omega, by omega⟩ ?_
  refine zv_istore_4 C dX2_leftOf_3 rfl rfl ?_
  refine zv_aload_n C dX2_leftOf_5 rfl rfl ?_
  refine zv_getR C dX2_leftOf_6 f_X2_21 hB.1 rfl hB.2.2.2.2.2.2.2.2 ?_
  refine zv_iload C dX2_leftOf_9 rfl ?_
  refine zv_iconst C dX2_leftOf_11 rfl ?_
  refine zv_iadd C dX2_leftOf_12 ⟨by omega, by omega⟩ ?_
  refine zv_iaload C dX2_leftOf_13 hB.2.2.2.2.1 ⟨by omega, by omega⟩ ?_
  rw [k8 l 0 g0 g1 (by omega) (by omega)]
  refine zv_iload_n C dX2_leftOf_14 rfl ?_
  refine zv_icmp_ne C 35 dX2_leftOf_15 rfl (fun h15 => ?_) (fun h15 => ?_)
  · refine zv_iconst C dX2_leftOf_35 rfl ?_
    refine zv_istore_5 C dX2_leftOf_36 rfl rfl ?_
    refine zv_iload C dX2_leftOf_38 rfl ?_
    refine zv_if_eq C 55 dX2_leftOf_40 rfl (fun _ => ?_) (fun h => absurd h (by omega))
    refine zv_iconst C dX2_leftOf_55 rfl ?_
    refine zv_ireturn C dX2_leftOf_56 rfl rfl rfl rfl ?_
    first | (rw [if_pos ⟨by omega, by omega⟩] at hp; exact hp) | (rw [if_neg (by omega)] at hp; exact hp)
  · refine zv_aload_n C dX2_leftOf_18 rfl rfl ?_
    refine zv_getR C dX2_leftOf_19 f_X2_21 hB.1 rfl hB.2.2.2.2.2.2.2.2 ?_
    refine zv_iload C dX2_leftOf_22 rfl ?_
    refine zv_iconst C dX2_leftOf_24 rfl ?_
    refine zv_iadd C dX2_leftOf_25 ⟨by omega, by omega⟩ ?_
    refine zv_iaload C dX2_leftOf_26 hB.2.2.2.2.1 ⟨by omega, by omega⟩ ?_
    rw [k8 l 2 g0 g1 (by omega) (by omega)]
    refine zv_iload_n C dX2_leftOf_27 rfl ?_
    refine zv_icmp_ne C 35 dX2_leftOf_28 rfl (fun h28 => ?_) (fun h28 => ?_)
    · refine zv_iconst C dX2_leftOf_35 rfl ?_
      refine zv_istore_5 C dX2_leftOf_36 rfl rfl ?_
      refine zv_iload C dX2_leftOf_38 rfl ?_
      refine zv_if_eq C 55 dX2_leftOf_40 rfl (fun _ => ?_) (fun h => absurd h (by omega))
      refine zv_iconst C dX2_leftOf_55 rfl ?_
      refine zv_ireturn C dX2_leftOf_56 rfl rfl rfl rfl ?_
      first | (rw [if_pos ⟨by omega, by omega⟩] at hp; exact hp) | (rw [if_neg (by omega)] at hp; exact hp)
    · refine zv_iconst C dX2_leftOf_31 rfl ?_
      refine zv_goto C 36 dX2_leftOf_32 rfl ?_
      refine zv_istore_5 C dX2_leftOf_36 rfl rfl ?_
      refine zv_iload C dX2_leftOf_38 rfl ?_
      refine zv_if_eq C 55 dX2_leftOf_40 rfl (fun h => absurd h (by omega)) (fun _ => ?_)
      refine zv_aload_n C dX2_leftOf_43 rfl rfl ?_
      refine zv_getR C dX2_leftOf_44 f_X2_21 hB.1 rfl hB.2.2.2.2.2.2.2.2 ?_
      refine zv_iload C dX2_leftOf_47 rfl ?_
      refine zv_iconst C dX2_leftOf_49 rfl ?_
      refine zv_iadd C dX2_leftOf_50 ⟨by omega, by omega⟩ ?_
      refine zv_iaload C dX2_leftOf_51 hB.2.2.2.2.1 ⟨by omega, by omega⟩ ?_
      rw [k8 l 3 g0 g1 (by omega) (by omega)]
      refine zv_goto C 56 dX2_leftOf_52 rfl ?_
      refine zv_ireturn C dX2_leftOf_56 rfl rfl rfl rfl ?_
      first | (rw [if_pos ⟨by omega, by omega⟩] at hp; exact hp) | (rw [if_neg (by omega)] at hp; exact hp)
set_option maxRecDepth 20000 in
theorem s_X2_leftWithLast {T : zTt} {FR : zFR} {AR : zAR} {FI : zFI} {AI : zAI} {Post : zPost} {B : Nat} {N : Int → Int} {nI nL : Nat} {o t : Int} (hB : bLay T FR B) (hK : bk FI AI B N) (hW : mW N nI nL) (hp : Post (zI (zS (fun l => if N (395 + 4 * l + 0) = o ∧ N (395 + 4 * l + 2) = t then N (395 + 4 * l + 3) else 0) nL)) T FR AR FI AI) : zMet M_X2_leftWithLast [zR B, zI o, zI t] T FR AR FI AI Post := by
  refine zMet.of [some (zR B), some (zI o), some (zI t), none, none] rfl rfl rfl (fun G C => ?_)
  obtain ⟨k0, k1, k2, k3, k4, k5, k6, k7, k8⟩ := id hK
  obtain ⟨w0, w1, w2, w3, w4, w5, w6, w7, w8, w9⟩ := id hW
  generalize hf : (fun l => if N (395 + 4 * l + 0) = o ∧ N (395 + 4 * l + 2) = t then N (395 + 4 * l + 3) else 0) = f
  have hp2 : Post (zI (zS f nL)) T FR AR FI AI := by rw [← hf]; exact hp
  have fb : ∀ i : Int, 0 ≤ i → i < nL → f i = (if N (395 + 4 * i + 0) = o ∧ N (395 + 4 * i + 2) = t then N (395 + 4 * i + 3) else 0) ∧ 0 ≤ f i ∧ f i ≤ 3000000 := fun i a c => by
    obtain ⟨-, q1, q2, q3⟩ := w9 i a c
    simp only [mLo] at q1 q2 q3
    refine ⟨by rw [← hf], ?_⟩
    rw [← hf]; dsimp only; split <;> omega
  refine zv_iconst C dX2_leftWithLast_0 rfl ?_
  refine zv_istore_3 C dX2_leftWithLast_1 rfl rfl ?_
  refine zv_iconst C dX2_leftWithLast_2 rfl ?_
  refine zv_istore_4 C dX2_leftWithLast_3 rfl rfl ?_
  suffices lp : ∀ d j : Nat, j + d = nL → zV G 5 [some (zR B), some (zI o), some (zI t), some (zI (zS f j)), some (zI (j : Int))] [] T FR AR FI AI 0 0 from lp nL 0 (by omega)
  intro d
  induction d with
  | zero =>
    intro j hj
    have ej : j = nL := by omega
    subst ej
    refine zv_iload C dX2_leftWithLast_5 rfl ?_
    refine zv_aload_n C dX2_leftWithLast_7 rfl rfl ?_
    refine zv_getI C dX2_leftWithLast_8 f_X2_37 hB.1 rfl ?_
    refine zv_icmp_ge C 31 dX2_leftWithLast_11 rfl (fun h11 => ?_) (fun h11 => absurd h11 (by omega))
    refine zv_iload_n C dX2_leftWithLast_31 rfl ?_
    refine zv_ireturn C dX2_leftWithLast_32 rfl rfl rfl rfl ?_
    exact hp2
  | succ d ih =>
    intro j hj
    have q := ih (j + 1) (by omega)
    have f1 := fb j (by omega) (by omega)
    have s1 := zS_nn (f := f) j (fun i a c => (fb i a (by omega)).2.1)
    have s2 := zS_ub (f := f) (c := 3000000) j (fun i a c => (fb i a (by omega)).2.2)
    rw [zS_t rfl] at q
    refine zv_iload C dX2_leftWithLast_5 rfl ?_
    refine zv_aload_n C dX2_leftWithLast_7 rfl rfl ?_
    refine zv_getI C dX2_leftWithLast_8 f_X2_37 hB.1 rfl ?_
    refine zv_icmp_ge C 31 dX2_leftWithLast_11 rfl (fun h11 => absurd h11 (by omega)) (fun h11 => ?_)
    refine zv_iload_n C dX2_leftWithLast_14 rfl ?_
    refine zv_aload_n C dX2_leftWithLast_15 rfl rfl ?_
    refine zv_iload C dX2_leftWithLast_16 rfl ?_
    refine zv_iload_n C dX2_leftWithLast_18 rfl ?_
    refine zv_iload_n C dX2_leftWithLast_19 rfl ?_
    refine zv_cVi0_3 C dX2_leftWithLast_20 k_X2_leftOf l_X2_54 hB.1 rfl ⟨Nat.le_of_ble_eq_true rfl, Nat.le_of_ble_eq_true rfl⟩ ⟨rfl, rfl⟩ ⟨Nat.le_of_ble_eq_true rfl, Nat.le_of_ble_eq_true rfl⟩ rfl rfl ?_
    refine s_X2_leftOf hB hK (by omega) (by omega) (by omega) ?_
    rw [← f1.1]
    refine zv_iadd C dX2_leftWithLast_23 ⟨by omega, by omega⟩ ?_
    refine zv_istore_3 C dX2_leftWithLast_24 rfl rfl ?_
    refine zv_iinc_4 C dX2_leftWithLast_25 rfl rfl ⟨by omega, by omega⟩ ?_
    refine zv_goto C 5 dX2_leftWithLast_28 rfl ?_
    exact q

theorem zv_loc2 {G : zG} {pc : Nat} {a b : Option zVal} {ls : List (Option zVal)} {st : List zVal} {T : zTt} {FR : zFR} {AR : zAR} {FI : zFI} {AI : zAI} {k n : Nat} {x y : Int} (e : x = y) (h : zV G pc (a :: b :: some (zI y) :: ls) st T FR AR FI AI k n) : zV G pc (a :: b :: some (zI x) :: ls) st T FR AR FI AI k n := e ▸ h
set_option maxRecDepth 20000 in
theorem s_X2_incomeOf {T : zTt} {FR : zFR} {AR : zAR} {FI : zFI} {AI : zAI} {Post : zPost} {B : Nat} {N : Int → Int} {nI nL : Nat} {o : Int} (hB : bLay T FR B) (hK : bk FI AI B N) (hW : mW N nI nL) (g0 : 0 ≤ o) (g1 : o < 3) (hp : Post (zI (mInc N nI o)) T FR AR FI AI) : zMet M_X2_incomeOf [zR B, zI o] T FR AR FI AI Post := by
  refine zMet.of [some (zR B), some (zI o), none, none] rfl rfl rfl (fun G C => ?_)
  obtain ⟨k0, k1, k2, k3, k4, k5, k6, k7, k8⟩ := id hK
  obtain ⟨w0, w1, w2, w3, w4, w5, w6, w7, w8, w9⟩ := id hW
  have pb := (w7 o (N 0) g0 g1 w0.1 (by omega)).2
  have hp2 : Post (zI (N (125 + 40 * o + N 0) + zPs (mIt N) nI o (N 0) 1 - zPs (mIt N) nI o (N 0) 0)) T FR AR FI AI := hp
  refine zv_aload_n C dX2_incomeOf_0 rfl rfl ?_
  refine zv_getR C dX2_incomeOf_1 f_X2_15 hB.1 rfl hB.2.2.2.2.2.2.1 ?_
  refine zv_iload_n C dX2_incomeOf_4 rfl ?_
  refine zv_bipush C dX2_incomeOf_5 rfl ?_
  refine zv_imul C dX2_incomeOf_7 ⟨by omega, by omega⟩ ?_
  refine zv_aload_n C dX2_incomeOf_8 rfl rfl ?_
  refine zv_getI C dX2_incomeOf_9 f_X2_28 hB.1 rfl ?_
  refine zv_iadd C dX2_incomeOf_12 ⟨by omega, by omega⟩ ?_
  rw [k0]
  refine zv_iaload C dX2_incomeOf_13 hB.2.2.1 ⟨by omega, by omega⟩ ?_
  rw [k6 o (N 0) g0 g1 w0.1 (by omega)]
  refine zv_istore_2 C dX2_incomeOf_14 rfl rfl ?_
  refine zv_iconst C dX2_incomeOf_15 rfl ?_
  refine zv_istore_3 C dX2_incomeOf_16 rfl rfl ?_
  suffices lp : ∀ d j : Nat, j + d = nI → zV G 17 [some (zR B), some (zI o), some (zI (N (125 + 40 * o + N 0) + zPs (mIt N) j o (N 0) 1 - zPs (mIt N) j o (N 0) 0)), some (zI (j : Int))] [] T FR AR FI AI 0 0 from by
    have q := lp nI 0 (by omega)
    rw [show N (125 + 40 * o + N 0) + zPs (mIt N) 0 o (N 0) 1 - zPs (mIt N) 0 o (N 0) 0 = N (125 + 40 * o + N 0) by simp [zPs, zS]] at q
    exact q
  intro d
  induction d with
  | zero =>
    intro j hj
    have ej : j = nI := by omega
    subst ej
    refine zv_iload_n C dX2_incomeOf_17 rfl ?_
    refine zv_aload_n C dX2_incomeOf_18 rfl rfl ?_
    refine zv_getI C dX2_incomeOf_19 f_X2_34 hB.1 rfl ?_
    refine zv_icmp_ge C 73 dX2_incomeOf_22 rfl (fun h22 => ?_) (fun h22 => absurd h22 (by omega))
    refine zv_iload_n C dX2_incomeOf_73 rfl ?_
    refine zv_ireturn C dX2_incomeOf_74 rfl rfl rfl rfl ?_
    exact hp2
  | succ d ih =>
    intro j hj
    have q := ih (j + 1) (by omega)
    have wj := w8 j (by omega) (by omega)
    have pt := zPart_b wj (N 0)
    have s1 := zPs_b (n := j) (fun i h0 h1 => w8 i h0 (by omega)) o (N 0) 1
    have s0 := zPs_b (n := j) (fun i h0 h1 => w8 i h0 (by omega)) o (N 0) 0
    obtain ⟨-, wt, wj1, -⟩ := id wj
    simp only [mIt] at wt wj1 pt
    refine zv_iload_n C dX2_incomeOf_17 rfl ?_
    refine zv_aload_n C dX2_incomeOf_18 rfl rfl ?_
    refine zv_getI C dX2_incomeOf_19 f_X2_34 hB.1 rfl ?_
    refine zv_icmp_ge C 73 dX2_incomeOf_22 rfl (fun h22 => absurd h22 (by omega)) (fun h22 => ?_)
    refine zv_aload_n C dX2_incomeOf_25 rfl rfl ?_
    refine zv_iload_n C dX2_incomeOf_26 rfl ?_
    refine zv_iload_n C dX2_incomeOf_27 rfl ?_
    refine zv_cVi0_2 C dX2_incomeOf_28 k_X2_isItemOf l_X2_58 hB.1 rfl ⟨Nat.le_of_ble_eq_true rfl, Nat.le_of_ble_eq_true rfl⟩ ⟨rfl, rfl⟩ ⟨Nat.le_of_ble_eq_true rfl, Nat.le_of_ble_eq_true rfl⟩ rfl rfl ?_
    refine s_X2_isItemOf hB hK (by omega) (by omega) (by omega) (fun b28 => ?_) (fun b28 => ?_)
    · refine zv_if_eq C 67 dX2_incomeOf_31 rfl (fun h => absurd h (by omega)) (fun _ => ?_)
      refine zv_iload_n C dX2_incomeOf_34 rfl ?_
      refine zv_aload_n C dX2_incomeOf_35 rfl rfl ?_
      refine zv_iload_n C dX2_incomeOf_36 rfl ?_
      refine zv_cVi0_1 C dX2_incomeOf_37 k_X2_isTaxable l_X2_62 hB.1 rfl ⟨Nat.le_of_ble_eq_true rfl, Nat.le_of_ble_eq_true rfl⟩ ⟨rfl, rfl⟩ ⟨Nat.le_of_ble_eq_true rfl, Nat.le_of_ble_eq_true rfl⟩ rfl rfl ?_
      refine s_X2_isTaxable hB hK (by omega) (by omega) (by omega) (fun b37 => ?_) (fun b37 => ?_)
      · refine zv_if_eq C 55 dX2_incomeOf_40 rfl (fun h => absurd h (by omega)) (fun _ => ?_)
        refine zv_aload_n C dX2_incomeOf_43 rfl rfl ?_
        refine zv_iload_n C dX2_incomeOf_44 rfl ?_
        refine zv_aload_n C dX2_incomeOf_45 rfl rfl ?_
        refine zv_getI C dX2_incomeOf_46 f_X2_28 hB.1 rfl ?_
        rw [k0]
        refine zv_cVi0_2 C dX2_incomeOf_49 k_X2_partOf l_X2_66 hB.1 rfl ⟨Nat.le_of_ble_eq_true rfl, Nat.le_of_ble_eq_true rfl⟩ ⟨rfl, rfl⟩ ⟨Nat.le_of_ble_eq_true rfl, Nat.le_of_ble_eq_true rfl⟩ rfl rfl ?_
        refine s_X2_partOf hB hK (by omega) (by omega) (by omega) wj (by omega) (by omega) ?_
        refine zv_goto C 65 dX2_incomeOf_52 rfl ?_
        refine zv_iadd C dX2_incomeOf_65 ⟨by omega, by omega⟩ ?_
        refine zv_istore_2 C dX2_incomeOf_66 rfl rfl ?_
        refine zv_iinc_3 C dX2_incomeOf_67 rfl rfl ⟨by omega, by omega⟩ ?_
        refine zv_goto C 17 dX2_incomeOf_70 rfl ?_
        first
        | (rw [zPs_f (tx := 1) (by simp only [mIt]; omega), zPs_f (tx := 0) (by simp only [mIt]; omega)] at q; exact q)
        | (rw [zPs_t (tx := 1) (by simp only [mIt]; omega), zPs_f (tx := 0) (by simp only [mIt]; omega)] at q; refine zv_loc2 ?_ q; omega)
        | (rw [zPs_f (tx := 1) (by simp only [mIt]; omega), zPs_t (tx := 0) (by simp only [mIt]; omega)] at q; refine zv_loc2 ?_ q; omega)
      · refine zv_if_eq C 55 dX2_incomeOf_40 rfl (fun _ => ?_) (fun h => absurd h (by omega))
        refine zv_aload_n C dX2_incomeOf_55 rfl rfl ?_
        refine zv_iload_n C dX2_incomeOf_56 rfl ?_
        refine zv_aload_n C dX2_incomeOf_57 rfl rfl ?_
        refine zv_getI C dX2_incomeOf_58 f_X2_28 hB.1 rfl ?_
        rw [k0]
        refine zv_cVi0_2 C dX2_incomeOf_61 k_X2_partOf l_X2_66 hB.1 rfl ⟨Nat.le_of_ble_eq_true rfl, Nat.le_of_ble_eq_true rfl⟩ ⟨rfl, rfl⟩ ⟨Nat.le_of_ble_eq_true rfl, Nat.le_of_ble_eq_true rfl⟩ rfl rfl ?_
        refine s_X2_partOf hB hK (by omega) (by omega) (by omega) wj (by omega) (by omega) ?_
        refine zv_ineg C dX2_incomeOf_64 ⟨by omega, by omega⟩ ?_
        refine zv_iadd C dX2_incomeOf_65 ⟨by omega, by omega⟩ ?_
        refine zv_istore_2 C dX2_incomeOf_66 rfl rfl ?_
        refine zv_iinc_3 C dX2_incomeOf_67 rfl rfl ⟨by omega, by omega⟩ ?_
        refine zv_goto C 17 dX2_incomeOf_70 rfl ?_
        first
        | (rw [zPs_f (tx := 1) (by simp only [mIt]; omega), zPs_f (tx := 0) (by simp only [mIt]; omega)] at q; exact q)
        | (rw [zPs_t (tx := 1) (by simp only [mIt]; omega), zPs_f (tx := 0) (by simp only [mIt]; omega)] at q; refine zv_loc2 ?_ q; omega)
        | (rw [zPs_f (tx := 1) (by simp only [mIt]; omega), zPs_t (tx := 0) (by simp only [mIt]; omega)] at q; refine zv_loc2 ?_ q; omega)
    · refine zv_if_eq C 67 dX2_incomeOf_31 rfl (fun _ => ?_) (fun h => absurd h (by omega))
      refine zv_iinc_3 C dX2_incomeOf_67 rfl rfl ⟨by omega, by omega⟩ ?_
      refine zv_goto C 17 dX2_incomeOf_70 rfl ?_
      first
      | (rw [zPs_f (tx := 1) (by simp only [mIt]; omega), zPs_f (tx := 0) (by simp only [mIt]; omega)] at q; exact q)
      | (rw [zPs_t (tx := 1) (by simp only [mIt]; omega), zPs_f (tx := 0) (by simp only [mIt]; omega)] at q; refine zv_loc2 ?_ q; omega)
      | (rw [zPs_f (tx := 1) (by simp only [mIt]; omega), zPs_t (tx := 0) (by simp only [mIt]; omega)] at q; refine zv_loc2 ?_ q; omega)

