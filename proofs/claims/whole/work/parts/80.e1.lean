/-- the four bytes of a number, as the class lays them -/
def zcl (AI : zAI) (t w : Int) : zAI := zsA (zsA (zsA (zsA AI 2 t (Int.bmod (Int.bmod (w / ((2 ^ 24 : Nat) : Int)) 256) 256)) 2 (t + 1) (Int.bmod (Int.bmod (w / ((2 ^ 16 : Nat) : Int)) 256) 256)) 2 (t + 1 + 1) (Int.bmod (Int.bmod (w / ((2 ^ 8 : Nat) : Int)) 256) 256)) 2 (t + 1 + 1 + 1) (Int.bmod (Int.bmod (w / ((2 ^ 0 : Nat) : Int)) 256) 256)
set_option maxRecDepth 20000 in
theorem s_X7_add {T : zTt} {FR : zFR} {AR : zAR} {FI : zFI} {AI : zAI} {Post : zPost} {B D : Nat} {w : Int} (hd : dLay T FR B D) (g0 : 0 ≤ FI 1 1) (g1 : FI 1 1 ≤ 636) (hp : Post (zI 0) T FR AR (zsF FI 1 1 (FI 1 1 + 1 + 1 + 1 + 1)) (zcl AI (FI 1 1) w)) : zMet M_X7_add [zR 1, zI w] T FR AR FI AI Post := by
  refine zMet.of [some (zR 1), some (zI w), none] rfl rfl rfl (fun G C => ?_)
  refine zv_bipush C dX7_add_0 rfl ?_
  refine zv_istore_2 C dX7_add_2 rfl rfl ?_
  refine zv_iload_n C dX7_add_3 rfl ?_
  refine zv_if_lt C 46 dX7_add_4 rfl (fun h => absurd h (by omega)) (fun _ => ?_)
  refine zv_aload_n C dX7_add_7 rfl rfl ?_
  refine zv_getI C dX7_add_8 f_X7_15 hd.2.1 rfl ?_
  try rw [zsF_eq]
  refine zv_sipush C dX7_add_11 rfl ?_
  refine zv_icmp_ge C 46 dX7_add_14 rfl (fun h14 => absurd h14 (by omega)) (fun h14 => ?_)
  refine zv_aload_n C dX7_add_17 rfl rfl ?_
  refine zv_getR C dX7_add_18 f_X7_11 hd.2.1 rfl hd.2.2.2.2.2.2.2.2.2.2.2.2.2.2.2.1 ?_
  refine zv_aload_n C dX7_add_21 rfl rfl ?_
  refine zv_getI C dX7_add_22 f_X7_15 hd.2.1 rfl ?_
  try rw [zsF_eq]
  refine zv_iload_n C dX7_add_25 rfl ?_
  refine zv_iload_n C dX7_add_26 rfl ?_
  refine zv_ishr C 24 dX7_add_27 rfl rfl ?_
  refine zv_i2b C dX7_add_28 ?_
  refine zv_bastore C dX7_add_29 hd.2.2.1 ⟨by omega, by omega⟩ ?_
  refine zv_aload_n C dX7_add_30 rfl rfl ?_
  refine zv_dup C dX7_add_31 rfl ?_
  refine zv_getI C dX7_add_32 f_X7_15 hd.2.1 rfl ?_
  try rw [zsF_eq]
  refine zv_iconst C dX7_add_35 rfl ?_
  refine zv_iadd C dX7_add_36 ⟨by omega, by omega⟩ ?_
  refine zv_putI C dX7_add_37 f_X7_15 hd.2.1 rfl ?_
  try rw [zsF_zsF]
  refine zv_iinc_2 C dX7_add_40 rfl rfl ⟨by omega, by omega⟩ ?_
  refine zv_goto C 3 dX7_add_43 rfl ?_
  refine zv_iload_n C dX7_add_3 rfl ?_
  refine zv_if_lt C 46 dX7_add_4 rfl (fun h => absurd h (by omega)) (fun _ => ?_)
  refine zv_aload_n C dX7_add_7 rfl rfl ?_
  refine zv_getI C dX7_add_8 f_X7_15 hd.2.1 rfl ?_
  try rw [zsF_eq]
  refine zv_sipush C dX7_add_11 rfl ?_
  refine zv_icmp_ge C 46 dX7_add_14 rfl (fun h14 => absurd h14 (by omega)) (fun h14 => ?_)
  refine zv_aload_n C dX7_add_17 rfl rfl ?_
  refine zv_getR C dX7_add_18 f_X7_11 hd.2.1 rfl hd.2.2.2.2.2.2.2.2.2.2.2.2.2.2.2.1 ?_
  refine zv_aload_n C dX7_add_21 rfl rfl ?_
  refine zv_getI C dX7_add_22 f_X7_15 hd.2.1 rfl ?_
  try rw [zsF_eq]
  refine zv_iload_n C dX7_add_25 rfl ?_
  refine zv_iload_n C dX7_add_26 rfl ?_
  refine zv_ishr C 16 dX7_add_27 rfl rfl ?_
  refine zv_i2b C dX7_add_28 ?_
  refine zv_bastore C dX7_add_29 hd.2.2.1 ⟨by omega, by omega⟩ ?_
  refine zv_aload_n C dX7_add_30 rfl rfl ?_
  refine zv_dup C dX7_add_31 rfl ?_
  refine zv_getI C dX7_add_32 f_X7_15 hd.2.1 rfl ?_
  try rw [zsF_eq]
  refine zv_iconst C dX7_add_35 rfl ?_
  refine zv_iadd C dX7_add_36 ⟨by omega, by omega⟩ ?_
  refine zv_putI C dX7_add_37 f_X7_15 hd.2.1 rfl ?_
  try rw [zsF_zsF]
  refine zv_iinc_2 C dX7_add_40 rfl rfl ⟨by omega, by omega⟩ ?_
  refine zv_goto C 3 dX7_add_43 rfl ?_
  refine zv_iload_n C dX7_add_3 rfl ?_
  refine zv_if_lt C 46 dX7_add_4 rfl (fun h => absurd h (by omega)) (fun _ => ?_)
  refine zv_aload_n C dX7_add_7 rfl rfl ?_
  refine zv_getI C dX7_add_8 f_X7_15 hd.2.1 rfl ?_
  try rw [zsF_eq]
  refine zv_sipush C dX7_add_11 rfl ?_
  refine zv_icmp_ge C 46 dX7_add_14 rfl (fun h14 => absurd h14 (by omega)) (fun h14 => ?_)
  refine zv_aload_n C dX7_add_17 rfl rfl ?_
  refine zv_getR C dX7_add_18 f_X7_11 hd.2.1 rfl hd.2.2.2.2.2.2.2.2.2.2.2.2.2.2.2.1 ?_
  refine zv_aload_n C dX7_add_21 rfl rfl ?_
  refine zv_getI C dX7_add_22 f_X7_15 hd.2.1 rfl ?_
  try rw [zsF_eq]
  refine zv_iload_n C dX7_add_25 rfl ?_
  refine zv_iload_n C dX7_add_26 rfl ?_
  refine zv_ishr C 8 dX7_add_27 rfl rfl ?_
  refine zv_i2b C dX7_add_28 ?_
  refine zv_bastore C dX7_add_29 hd.2.2.1 ⟨by omega, by omega⟩ ?_
  refine zv_aload_n C dX7_add_30 rfl rfl ?_
  refine zv_dup C dX7_add_31 rfl ?_
  refine zv_getI C dX7_add_32 f_X7_15 hd.2.1 rfl ?_
  try rw [zsF_eq]
  refine zv_iconst C dX7_add_35 rfl ?_
  refine zv_iadd C dX7_add_36 ⟨by omega, by omega⟩ ?_
  refine zv_putI C dX7_add_37 f_X7_15 hd.2.1 rfl ?_
  try rw [zsF_zsF]
  refine zv_iinc_2 C dX7_add_40 rfl rfl ⟨by omega, by omega⟩ ?_
  refine zv_goto C 3 dX7_add_43 rfl ?_
  refine zv_iload_n C dX7_add_3 rfl ?_
  refine zv_if_lt C 46 dX7_add_4 rfl (fun h => absurd h (by omega)) (fun _ => ?_)
  refine zv_aload_n C dX7_add_7 rfl rfl ?_
  refine zv_getI C dX7_add_8 f_X7_15 hd.2.1 rfl ?_
  try rw [zsF_eq]
  refine zv_sipush C dX7_add_11 rfl ?_
  refine zv_icmp_ge C 46 dX7_add_14 rfl (fun h14 => absurd h14 (by omega)) (fun h14 => ?_)
  refine zv_aload_n C dX7_add_17 rfl rfl ?_
  refine zv_getR C dX7_add_18 f_X7_11 hd.2.1 rfl hd.2.2.2.2.2.2.2.2.2.2.2.2.2.2.2.1 ?_
  refine zv_aload_n C dX7_add_21 rfl rfl ?_
  refine zv_getI C dX7_add_22 f_X7_15 hd.2.1 rfl ?_
  try rw [zsF_eq]
  refine zv_iload_n C dX7_add_25 rfl ?_
  refine zv_iload_n C dX7_add_26 rfl ?_
  refine zv_ishr C 0 dX7_add_27 rfl rfl ?_
  refine zv_i2b C dX7_add_28 ?_
  refine zv_bastore C dX7_add_29 hd.2.2.1 ⟨by omega, by omega⟩ ?_
  refine zv_aload_n C dX7_add_30 rfl rfl ?_
  refine zv_dup C dX7_add_31 rfl ?_
  refine zv_getI C dX7_add_32 f_X7_15 hd.2.1 rfl ?_
  try rw [zsF_eq]
  refine zv_iconst C dX7_add_35 rfl ?_
  refine zv_iadd C dX7_add_36 ⟨by omega, by omega⟩ ?_
  refine zv_putI C dX7_add_37 f_X7_15 hd.2.1 rfl ?_
  try rw [zsF_zsF]
  refine zv_iinc_2 C dX7_add_40 rfl rfl ⟨by omega, by omega⟩ ?_
  refine zv_goto C 3 dX7_add_43 rfl ?_
  refine zv_iload_n C dX7_add_3 rfl ?_
  refine zv_if_lt C 46 dX7_add_4 rfl (fun _ => ?_) (fun h => absurd h (by omega))
  refine zv_return C dX7_add_46 rfl rfl rfl ?_
  exact hp

set_option maxRecDepth 20000 in
theorem s_X7_at {T : zTt} {FR : zFR} {AR : zAR} {FI : zFI} {AI : zAI} {Post : zPost} {B D : Nat} {p : Int} (hd : dLay T FR B D) (g1 : FI 1 1 ≤ 640) (hp : Post (zI (if 0 ≤ p ∧ p < FI 1 1 then AI 2 p % 256 else -1)) T FR AR FI AI) : zMet M_X7_at [zR 1, zI p] T FR AR FI AI Post := by
  refine zMet.of [some (zR 1), some (zI p)] rfl rfl rfl (fun G C => ?_)
  refine zv_iload_n C dX7_at_0 rfl ?_
  refine zv_if_lt C 12 dX7_at_1 rfl (fun h1 => ?_) (fun h1 => ?_)
  · refine zv_iconst C dX7_at_12 rfl ?_
    refine zv_goto C 26 dX7_at_13 rfl ?_
    refine zv_ireturn C dX7_at_26 rfl rfl rfl rfl ?_
    first | (rw [if_pos ⟨by omega, by omega⟩] at hp; exact hp) | (rw [if_neg (by omega)] at hp; exact hp)
  · refine zv_iload_n C dX7_at_4 rfl ?_
    refine zv_aload_n C dX7_at_5 rfl rfl ?_
    refine zv_getI C dX7_at_6 f_X7_15 hd.2.1 rfl ?_
    refine zv_icmp_lt C 16 dX7_at_9 rfl (fun h9 => ?_) (fun h9 => ?_)
    · refine zv_aload_n C dX7_at_16 rfl rfl ?_
      refine zv_getR C dX7_at_17 f_X7_11 hd.2.1 rfl hd.2.2.2.2.2.2.2.2.2.2.2.2.2.2.2.1 ?_
      refine zv_iload_n C dX7_at_20 rfl ?_
      refine zv_baload C dX7_at_21 hd.2.2.1 ⟨by omega, by omega⟩ ?_
      refine zv_sipush C dX7_at_22 rfl ?_
      refine zv_iand C 8 dX7_at_25 rfl ?_
      refine zv_ireturn C dX7_at_26 rfl rfl rfl rfl ?_
      first | (rw [if_pos ⟨by omega, by omega⟩] at hp; exact hp) | (rw [if_neg (by omega)] at hp; exact hp)
    · refine zv_iconst C dX7_at_12 rfl ?_
      refine zv_goto C 26 dX7_at_13 rfl ?_
      refine zv_ireturn C dX7_at_26 rfl rfl rfl rfl ?_
      first | (rw [if_pos ⟨by omega, by omega⟩] at hp; exact hp) | (rw [if_neg (by omega)] at hp; exact hp)
set_option maxRecDepth 20000 in
theorem s_X8_feed {T : zTt} {FR : zFR} {AR : zAR} {FI : zFI} {AI : zAI} {Post : zPost} {B D : Nat} {a b c d e : Int} (hd : dLay T FR B D) (g0 : 0 ≤ FI 1 1) (g1 : FI 1 1 ≤ 640) (h0 : ¬ FI 1 1 + 20 ≤ 640 → Post (zI (-1)) T FR AR FI AI) (h1 : FI 1 1 + 20 ≤ 640 → Post (zI (FI 1 1 + 20)) T FR AR (zsF FI 1 1 (FI 1 1 + 20)) (zcl (zcl (zcl (zcl (zcl AI (FI 1 1) a) (FI 1 1 + 4) b) (FI 1 1 + 8) c) (FI 1 1 + 12) d) (FI 1 1 + 16) e)) : zMet M_X8_feed [zR 0, zI a, zI b, zI c, zI d, zI e] T FR AR FI AI Post := by
  refine zMet.of [some (zR 0), some (zI a), some (zI b), some (zI c), some (zI d), some (zI e)] rfl rfl rfl (fun G C => ?_)
  refine zv_aload_n C dX8_feed_0 rfl rfl ?_
  refine zv_getR C dX8_feed_1 f_X8_20 hd.1 rfl hd.2.2.2.2.2.2.2.2.1 ?_
  refine zv_getI C dX8_feed_4 f_X8_48 hd.2.1 rfl ?_
  refine zv_bipush C dX8_feed_7 rfl ?_
  refine zv_iadd C dX8_feed_9 ⟨by omega, by omega⟩ ?_
  refine zv_sipush C dX8_feed_10 rfl ?_
  refine zv_icmp_le C 18 dX8_feed_13 rfl (fun h13 => ?_) (fun h13 => ?_)
  · refine zv_aload_n C dX8_feed_18 rfl rfl ?_
    refine zv_getR C dX8_feed_19 f_X8_20 hd.1 rfl hd.2.2.2.2.2.2.2.2.1 ?_
    refine zv_iload_n C dX8_feed_22 rfl ?_
    refine zv_cVv0_1 C dX8_feed_23 k_X7_add l_X8_54 hd.2.1 rfl ⟨Nat.le_of_ble_eq_true rfl, Nat.le_of_ble_eq_true rfl⟩ ⟨rfl, rfl⟩ ⟨Nat.le_of_ble_eq_true rfl, Nat.le_of_ble_eq_true rfl⟩ rfl rfl ?_
    refine s_X7_add hd (by omega) (by omega) ?_
    rw [show FI 1 1 + 1 + 1 + 1 + 1 = FI 1 1 + 4 by omega]
    refine zv_aload_n C dX8_feed_26 rfl rfl ?_
    refine zv_getR C dX8_feed_27 f_X8_20 hd.1 rfl hd.2.2.2.2.2.2.2.2.1 ?_
    refine zv_iload_n C dX8_feed_30 rfl ?_
    refine zv_cVv0_1 C dX8_feed_31 k_X7_add l_X8_54 hd.2.1 rfl ⟨Nat.le_of_ble_eq_true rfl, Nat.le_of_ble_eq_true rfl⟩ ⟨rfl, rfl⟩ ⟨Nat.le_of_ble_eq_true rfl, Nat.le_of_ble_eq_true rfl⟩ rfl rfl ?_
    refine s_X7_add hd (by rw [zsF_eq]; omega) (by rw [zsF_eq]; omega) ?_
    rw [zsF_eq, zsF_zsF, show FI 1 1 + 4 + 1 + 1 + 1 + 1 = FI 1 1 + 8 by omega]
    refine zv_aload_n C dX8_feed_34 rfl rfl ?_
    refine zv_getR C dX8_feed_35 f_X8_20 hd.1 rfl hd.2.2.2.2.2.2.2.2.1 ?_
    refine zv_iload_n C dX8_feed_38 rfl ?_
    refine zv_cVv0_1 C dX8_feed_39 k_X7_add l_X8_54 hd.2.1 rfl ⟨Nat.le_of_ble_eq_true rfl, Nat.le_of_ble_eq_true rfl⟩ ⟨rfl, rfl⟩ ⟨Nat.le_of_ble_eq_true rfl, Nat.le_of_ble_eq_true rfl⟩ rfl rfl ?_
    refine s_X7_add hd (by rw [zsF_eq]; omega) (by rw [zsF_eq]; omega) ?_
    rw [zsF_eq, zsF_zsF, show FI 1 1 + 8 + 1 + 1 + 1 + 1 = FI 1 1 + 12 by omega]
    refine zv_aload_n C dX8_feed_42 rfl rfl ?_
    refine zv_getR C dX8_feed_43 f_X8_20 hd.1 rfl hd.2.2.2.2.2.2.2.2.1 ?_
    refine zv_iload C dX8_feed_46 rfl ?_
    refine zv_cVv0_1 C dX8_feed_48 k_X7_add l_X8_54 hd.2.1 rfl ⟨Nat.le_of_ble_eq_true rfl, Nat.le_of_ble_eq_true rfl⟩ ⟨rfl, rfl⟩ ⟨Nat.le_of_ble_eq_true rfl, Nat.le_of_ble_eq_true rfl⟩ rfl rfl ?_
    refine s_X7_add hd (by rw [zsF_eq]; omega) (by rw [zsF_eq]; omega) ?_
    rw [zsF_eq, zsF_zsF, show FI 1 1 + 12 + 1 + 1 + 1 + 1 = FI 1 1 + 16 by omega]
    refine zv_aload_n C dX8_feed_51 rfl rfl ?_
    refine zv_getR C dX8_feed_52 f_X8_20 hd.1 rfl hd.2.2.2.2.2.2.2.2.1 ?_
    refine zv_iload C dX8_feed_55 rfl ?_
    refine zv_cVv0_1 C dX8_feed_57 k_X7_add l_X8_54 hd.2.1 rfl ⟨Nat.le_of_ble_eq_true rfl, Nat.le_of_ble_eq_true rfl⟩ ⟨rfl, rfl⟩ ⟨Nat.le_of_ble_eq_true rfl, Nat.le_of_ble_eq_true rfl⟩ rfl rfl ?_
    refine s_X7_add hd (by rw [zsF_eq]; omega) (by rw [zsF_eq]; omega) ?_
    rw [zsF_eq, zsF_zsF, show FI 1 1 + 16 + 1 + 1 + 1 + 1 = FI 1 1 + 20 by omega]
    refine zv_aload_n C dX8_feed_60 rfl rfl ?_
    refine zv_getR C dX8_feed_61 f_X8_20 hd.1 rfl hd.2.2.2.2.2.2.2.2.1 ?_
    refine zv_getI C dX8_feed_64 f_X8_48 hd.2.1 rfl ?_
    rw [zsF_eq]
    refine zv_ireturn C dX8_feed_67 rfl rfl rfl rfl ?_
    exact h1 (by omega)
  · refine zv_iconst C dX8_feed_16 rfl ?_
    refine zv_ireturn C dX8_feed_17 rfl rfl rfl rfl ?_
    exact h0 (by omega)
set_option maxRecDepth 20000 in
theorem s_X8_end {T : zTt} {FR : zFR} {AR : zAR} {FI : zFI} {AI : zAI} {Post : zPost} {B D : Nat} {x : Int} (hd : dLay T FR B D) (h1 : 0 ≤ x ∧ x ≤ FI 1 1 → Post (zI 1) T FR AR (zsF FI 1 1 x) AI) (h0 : ¬ (0 ≤ x ∧ x ≤ FI 1 1) → Post (zI 0) T FR AR FI AI) : zMet M_X8_end [zR 0, zI x] T FR AR FI AI Post := by
  refine zMet.of [some (zR 0), some (zI x)] rfl rfl rfl (fun G C => ?_)
  refine zv_iload_n C dX8_end_0 rfl ?_
  refine zv_if_lt C 15 dX8_end_1 rfl (fun c1 => ?_) (fun c1 => ?_)
  · refine zv_iconst C dX8_end_15 rfl ?_
    refine zv_ireturn C dX8_end_16 rfl rfl rfl rfl ?_
    exact h0 (by omega)
  · refine zv_iload_n C dX8_end_4 rfl ?_
    refine zv_aload_n C dX8_end_5 rfl rfl ?_
    refine zv_getR C dX8_end_6 f_X8_20 hd.1 rfl hd.2.2.2.2.2.2.2.2.1 ?_
    refine zv_getI C dX8_end_9 f_X8_48 hd.2.1 rfl ?_
    refine zv_icmp_le C 17 dX8_end_12 rfl (fun h12 => ?_) (fun h12 => ?_)
    · refine zv_aload_n C dX8_end_17 rfl rfl ?_
      refine zv_getR C dX8_end_18 f_X8_20 hd.1 rfl hd.2.2.2.2.2.2.2.2.1 ?_
      refine zv_iload_n C dX8_end_21 rfl ?_
      refine zv_putI C dX8_end_22 f_X8_48 hd.2.1 rfl ?_
      refine zv_iconst C dX8_end_25 rfl ?_
      refine zv_ireturn C dX8_end_26 rfl rfl rfl rfl ?_
      exact h1 (by omega)
    · refine zv_iconst C dX8_end_15 rfl ?_
      refine zv_ireturn C dX8_end_16 rfl rfl rfl rfl ?_
      exact h0 (by omega)
set_option maxRecDepth 20000 in
theorem s_X8_fault {T : zTt} {FR : zFR} {AR : zAR} {FI : zFI} {AI : zAI} {Post : zPost} {B D : Nat}  (hd : dLay T FR B D) (hp : Post (zI (FI 3 8)) T FR AR FI AI) : zMet M_X8_fault [zR 0] T FR AR FI AI Post := by
  refine zMet.of [some (zR 0)] rfl rfl rfl (fun G C => ?_)
  refine zv_aload_n C dX8_fault_0 rfl rfl ?_
  refine zv_getR C dX8_fault_1 f_X8_12 hd.1 rfl hd.2.2.2.2.2.2.2.2.2.1 ?_
  refine zv_getI C dX8_fault_4 f_X8_75 hd.2.2.2.1 rfl ?_
  refine zv_ireturn C dX8_fault_7 rfl rfl rfl rfl ?_
  exact hp
set_option maxRecDepth 20000 in
theorem s_X6_isBlank {T : zTt} {FR : zFR} {AR : zAR} {FI : zFI} {AI : zAI} {Post : zPost} {c : Int}  (h1 : c = 32 ∨ c = 10 → Post (zI 1) T FR AR FI AI) (h0 : ¬ (c = 32 ∨ c = 10) → Post (zI 0) T FR AR FI AI) : zMet M_X6_isBlank [zI c] T FR AR FI AI Post := by
  refine zMet.of [some (zI c)] rfl rfl rfl (fun G C => ?_)
  refine zv_iload_n C dX6_isBlank_0 rfl ?_
  refine zv_bipush C dX6_isBlank_1 rfl ?_
  refine zv_icmp_eq C 12 dX6_isBlank_3 rfl (fun h3 => ?_) (fun h3 => ?_)
  · refine zv_iconst C dX6_isBlank_12 rfl ?_
    refine zv_goto C 17 dX6_isBlank_13 rfl ?_
    refine zv_ireturn C dX6_isBlank_17 rfl rfl rfl rfl ?_
    exact h1 (by omega)
  · refine zv_iload_n C dX6_isBlank_6 rfl ?_
    refine zv_bipush C dX6_isBlank_7 rfl ?_
    refine zv_icmp_ne C 16 dX6_isBlank_9 rfl (fun h9 => ?_) (fun h9 => ?_)
    · refine zv_iconst C dX6_isBlank_16 rfl ?_
      refine zv_ireturn C dX6_isBlank_17 rfl rfl rfl rfl ?_
      exact h0 (by omega)
    · refine zv_iconst C dX6_isBlank_12 rfl ?_
      refine zv_goto C 17 dX6_isBlank_13 rfl ?_
      refine zv_ireturn C dX6_isBlank_17 rfl rfl rfl rfl ?_
      exact h1 (by omega)
set_option maxRecDepth 20000 in
theorem s_X6_isDigit {T : zTt} {FR : zFR} {AR : zAR} {FI : zFI} {AI : zAI} {Post : zPost} {c : Int}  (h1 : 48 ≤ c ∧ c ≤ 57 → Post (zI 1) T FR AR FI AI) (h0 : ¬ (48 ≤ c ∧ c ≤ 57) → Post (zI 0) T FR AR FI AI) : zMet M_X6_isDigit [zI c] T FR AR FI AI Post := by
  refine zMet.of [some (zI c)] rfl rfl rfl (fun G C => ?_)
  refine zv_iload_n C dX6_isDigit_0 rfl ?_
  refine zv_bipush C dX6_isDigit_1 rfl ?_
  refine zv_icmp_lt C 16 dX6_isDigit_3 rfl (fun h3 => ?_) (fun h3 => ?_)
  · refine zv_iconst C dX6_isDigit_16 rfl ?_
    refine zv_ireturn C dX6_isDigit_17 rfl rfl rfl rfl ?_
    exact h0 (by omega)
  · refine zv_iload_n C dX6_isDigit_6 rfl ?_
    refine zv_bipush C dX6_isDigit_7 rfl ?_
    refine zv_icmp_gt C 16 dX6_isDigit_9 rfl (fun h9 => ?_) (fun h9 => ?_)
    · refine zv_iconst C dX6_isDigit_16 rfl ?_
      refine zv_ireturn C dX6_isDigit_17 rfl rfl rfl rfl ?_
      exact h0 (by omega)
    · refine zv_iconst C dX6_isDigit_12 rfl ?_
      refine zv_goto C 17 dX6_isDigit_13 rfl ?_
      refine zv_ireturn C dX6_isDigit_17 rfl rfl rfl rfl ?_
      exact h1 (by omega)
set_option maxRecDepth 20000 in
theorem s_X6_isOfRun {T : zTt} {FR : zFR} {AR : zAR} {FI : zFI} {AI : zAI} {Post : zPost} {c : Int}  (h1 : (48 ≤ c ∧ c ≤ 57) ∨ (97 ≤ c ∧ c ≤ 122) → Post (zI 1) T FR AR FI AI) (h0 : ¬ ((48 ≤ c ∧ c ≤ 57) ∨ (97 ≤ c ∧ c ≤ 122)) → Post (zI 0) T FR AR FI AI) : zMet M_X6_isOfRun [zI c] T FR AR FI AI Post := by
  refine zMet.of [some (zI c)] rfl rfl rfl (fun G C => ?_)
  refine zv_iload_n C dX6_isOfRun_0 rfl ?_
  refine zv_cSi0_1 C dX6_isOfRun_1 k_X6_isDigit l_X6_172 ⟨Nat.le_of_ble_eq_true rfl, Nat.le_of_ble_eq_true rfl⟩ ⟨rfl, rfl⟩ ⟨Nat.le_of_ble_eq_true rfl, Nat.le_of_ble_eq_true rfl⟩ rfl rfl ?_
  refine s_X6_isDigit (fun b1 => ?_) (fun b1 => ?_)
  · refine zv_if_ne C 19 dX6_isOfRun_4 rfl (fun _ => ?_) (fun h => absurd h (by omega))
    refine zv_iconst C dX6_isOfRun_19 rfl ?_
    refine zv_goto C 24 dX6_isOfRun_20 rfl ?_
    refine zv_ireturn C dX6_isOfRun_24 rfl rfl rfl rfl ?_
    exact h1 (by omega)
  · refine zv_if_ne C 19 dX6_isOfRun_4 rfl (fun h => absurd h (by omega)) (fun _ => ?_)
    refine zv_iload_n C dX6_isOfRun_7 rfl ?_
    refine zv_bipush C dX6_isOfRun_8 rfl ?_
    refine zv_icmp_lt C 23 dX6_isOfRun_10 rfl (fun h10 => ?_) (fun h10 => ?_)
    · refine zv_iconst C dX6_isOfRun_23 rfl ?_
      refine zv_ireturn C dX6_isOfRun_24 rfl rfl rfl rfl ?_
      exact h0 (by omega)
    · refine zv_iload_n C dX6_isOfRun_13 rfl ?_
      refine zv_bipush C dX6_isOfRun_14 rfl ?_
      refine zv_icmp_gt C 23 dX6_isOfRun_16 rfl (fun h16 => ?_) (fun h16 => ?_)
      · refine zv_iconst C dX6_isOfRun_23 rfl ?_
        refine zv_ireturn C dX6_isOfRun_24 rfl rfl rfl rfl ?_
        exact h0 (by omega)
      · refine zv_iconst C dX6_isOfRun_19 rfl ?_
        refine zv_goto C 24 dX6_isOfRun_20 rfl ?_
        refine zv_ireturn C dX6_isOfRun_24 rfl rfl rfl rfl ?_
        exact h1 (by omega)
set_option maxRecDepth 20000 in
theorem s_X6_refuse {T : zTt} {FR : zFR} {AR : zAR} {FI : zFI} {AI : zAI} {Post : zPost} {B D : Nat} {f : Int} (hd : dLay T FR B D) (hp : Post (zI 0) T FR AR (zsF FI 3 8 f) AI) : zMet M_X6_refuse [zR 3, zI f] T FR AR FI AI Post := by
  refine zMet.of [some (zR 3), some (zI f)] rfl rfl rfl (fun G C => ?_)
  refine zv_aload_n C dX6_refuse_0 rfl rfl ?_
  refine zv_iload_n C dX6_refuse_1 rfl ?_
  refine zv_putI C dX6_refuse_2 f_X6_39 hd.2.2.2.1 rfl ?_
  refine zv_iconst C dX6_refuse_5 rfl ?_
  refine zv_ireturn C dX6_refuse_6 rfl rfl rfl rfl ?_
  exact hp
