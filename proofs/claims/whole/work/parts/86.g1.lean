set_option maxRecDepth 20000 in
theorem s_X1_forget {T : zTt} {FR : zFR} {AR : zAR} {FI : zFI} {AI : zAI} {Post : zPost} {B D : Nat}  (hd : dLay T FR B D) (hp : Post (zI 0) T FR AR (zsF FI 14 2 0) AI) : zMet M_X1_forget [zR 14] T FR AR FI AI Post := by
  refine zMet.of [some (zR 14)] rfl rfl rfl (fun G C => ?_)
  refine zv_aload_n C dX1_forget_0 rfl rfl ?_
  refine zv_iconst C dX1_forget_1 rfl ?_
  refine zv_putI C dX1_forget_2 f_X1_24 hd.2.2.2.2.2.1 rfl ?_
  refine zv_return C dX1_forget_5 rfl rfl rfl ?_
  exact hp
set_option maxRecDepth 20000 in
theorem s_X1_takeBack {T : zTt} {FR : zFR} {AR : zAR} {FI : zFI} {AI : zAI} {Post : zPost} {B B2 D : Nat} {N : Int → Int} (hd : dLay T FR B D) (hB : bLay T FR B) (hB2 : bLay T FR B2) (g0 : 0 ≤ FI 14 1) (g1 : FI 14 1 < 10) (g2 : 0 ≤ FI 14 2) (g3 : FI 14 2 ≤ 10) (hq : AR 15 ((FI 14 1 + 9) % 10) = some B2) (hK : bk FI AI B2 N) (hb : N 2 ≤ 3 ∧ N 3 ≤ 30 ∧ N 4 ≤ 10) (gd : B + 5 ≤ B2 ∨ B2 + 5 ≤ B) (gB : 14 < B2) (hp : ∀ (F1 : zFI) (A1 : zAI), bFr B (zsF (zsF FI 14 1 ((FI 14 1 + 9) % 10)) 14 2 (FI 14 2 - 1)) F1 AI A1 → bk F1 A1 B N → Post (zI 0) T FR AR F1 A1) : zMet M_X1_takeBack [zR 14, zR B] T FR AR FI AI Post := by
  refine zMet.of [some (zR 14), some (zR B)] rfl rfl rfl (fun G C => ?_)
  refine zv_aload_n C dX1_takeBack_0 rfl rfl ?_
  refine zv_aload_n C dX1_takeBack_1 rfl rfl ?_
  refine zv_getI C dX1_takeBack_2 f_X1_15 hd.2.2.2.2.2.1 rfl ?_
  refine zv_bipush C dX1_takeBack_5 rfl ?_
  refine zv_iadd C dX1_takeBack_7 ⟨by omega, by omega⟩ ?_
  refine zv_iconst C dX1_takeBack_8 rfl ?_
  refine zv_isub C dX1_takeBack_9 ⟨by omega, by omega⟩ ?_
  refine zv_bipush C dX1_takeBack_10 rfl ?_
  refine zv_irem C dX1_takeBack_12 (by omega) (by omega) ?_
  rw [show (FI 14 1 + 10 - 1) % 10 = (FI 14 1 + 9) % 10 by congr 1; omega]
  refine zv_putI C dX1_takeBack_13 f_X1_15 hd.2.2.2.2.2.1 rfl ?_
  refine zv_aload_n C dX1_takeBack_16 rfl rfl ?_
  refine zv_dup C dX1_takeBack_17 rfl ?_
  refine zv_getI C dX1_takeBack_18 f_X1_24 hd.2.2.2.2.2.1 rfl ?_
  try simp (disch := omega) only [zsF_eq, zsF_ne]
  try simp (disch := omega) only [zsF_eq, zsF_ne]
  refine zv_iconst C dX1_takeBack_21 rfl ?_
  refine zv_isub C dX1_takeBack_22 ⟨by omega, by omega⟩ ?_
  refine zv_putI C dX1_takeBack_23 f_X1_24 hd.2.2.2.2.2.1 rfl ?_
  refine zv_aload_n C dX1_takeBack_26 rfl rfl ?_
  refine zv_getR C dX1_takeBack_27 f_X1_11 hd.2.2.2.2.2.1 rfl hd.2.2.2.2.2.2.2.2.2.2.2.2.2.2.2.2.2.1 ?_
  refine zv_aload_n C dX1_takeBack_30 rfl rfl ?_
  refine zv_getI C dX1_takeBack_31 f_X1_15 hd.2.2.2.2.2.1 rfl ?_
  try simp (disch := omega) only [zsF_eq, zsF_ne]
  try simp (disch := omega) only [zsF_eq, zsF_ne]
  refine zv_aaload5 C dX1_takeBack_34 hd.2.2.2.2.2.2.1 ⟨by omega, by omega⟩ ?_
  rw [hq]
  refine zv_ifnull C 51 dX1_takeBack_35 rfl (fun h => by cases h) (fun _ _ => ?_)
  refine zv_aload_n C dX1_takeBack_38 rfl rfl ?_
  refine zv_aload_n C dX1_takeBack_39 rfl rfl ?_
  refine zv_getR C dX1_takeBack_40 f_X1_11 hd.2.2.2.2.2.1 rfl hd.2.2.2.2.2.2.2.2.2.2.2.2.2.2.2.2.2.1 ?_
  refine zv_aload_n C dX1_takeBack_43 rfl rfl ?_
  refine zv_getI C dX1_takeBack_44 f_X1_15 hd.2.2.2.2.2.1 rfl ?_
  try simp (disch := omega) only [zsF_eq, zsF_ne]
  try simp (disch := omega) only [zsF_eq, zsF_ne]
  refine zv_aaload5 C dX1_takeBack_47 hd.2.2.2.2.2.2.1 ⟨by omega, by omega⟩ ?_
  rw [hq]
  refine zv_cVv0_1 C dX1_takeBack_48 k_X2_copyFrom l_X1_20 hB.1 rfl ⟨Nat.le_of_ble_eq_true rfl, Nat.le_of_ble_eq_true rfl⟩ ⟨rfl, rfl⟩ ⟨Nat.le_of_ble_eq_true rfl, Nat.le_of_ble_eq_true rfl⟩ rfl rfl ?_
  refine s_X2_copyFrom hB hB2 (bk_setI (bk_setI hK (by omega)) (by omega)) hb gd (fun F1 A1 f1 kk => ?_)
  refine zv_return C dX1_takeBack_51 rfl rfl rfl ?_
  exact hp F1 A1 f1 kk
set_option maxRecDepth 20000 in
theorem s_X8_undo {T : zTt} {FR : zFR} {AR : zAR} {FI : zFI} {AI : zAI} {Post : zPost} {B B2 D : Nat} {N : Int → Int} (hd : dLay T FR B D) (hB : bLay T FR B) (hB2 : bLay T FR B2) (g0 : 0 ≤ FI 14 1) (g1 : FI 14 1 < 10) (g2 : 0 ≤ FI 14 2) (g3 : FI 14 2 ≤ 10) (hq : FI 14 2 ≠ 0 → AR 15 ((FI 14 1 + 9) % 10) = some B2) (hK : FI 14 2 ≠ 0 → bk FI AI B2 N) (hb : N 2 ≤ 3 ∧ N 3 ≤ 30 ∧ N 4 ≤ 10) (gd : B + 5 ≤ B2 ∨ B2 + 5 ≤ B) (gB : 14 < B2) (gB1 : 14 < B) (hn : FI 14 2 = 0 → Post (zI (-1)) T FR AR FI AI) (hp : FI 14 2 ≠ 0 → ∀ (F1 : zFI) (A1 : zAI), bFr B (zsF (zsF FI 14 1 ((FI 14 1 + 9) % 10)) 14 2 (FI 14 2 - 1)) F1 AI A1 → bk F1 A1 B N → Post (zI (FI 14 2 - 1)) T FR AR F1 A1) : zMet M_X8_undo [zR 0] T FR AR FI AI Post := by
  refine zMet.of [some (zR 0)] rfl rfl rfl (fun G C => ?_)
  refine zv_aload_n C dX8_undo_0 rfl rfl ?_
  refine zv_getR C dX8_undo_1 f_X8_31 hd.1 rfl hd.2.2.2.2.2.2.2.2.2.2.2.1 ?_
  refine zv_getI C dX8_undo_4 f_X8_97 hd.2.2.2.2.2.1 rfl ?_
  refine zv_if_ne C 12 dX8_undo_7 rfl (fun h7 => ?_) (fun h7 => ?_)
  · refine zv_aload_n C dX8_undo_12 rfl rfl ?_
    refine zv_getR C dX8_undo_13 f_X8_31 hd.1 rfl hd.2.2.2.2.2.2.2.2.2.2.2.1 ?_
    refine zv_aload_n C dX8_undo_16 rfl rfl ?_
    refine zv_getR C dX8_undo_17 f_X8_44 hd.1 rfl hd.2.2.2.2.2.2.2.2.2.2.2.2.2.1 ?_
    refine zv_cVv0_1 C dX8_undo_20 k_X1_takeBack l_X8_240 hd.2.2.2.2.2.1 rfl ⟨Nat.le_of_ble_eq_true rfl, Nat.le_of_ble_eq_true rfl⟩ ⟨rfl, rfl⟩ ⟨Nat.le_of_ble_eq_true rfl, Nat.le_of_ble_eq_true rfl⟩ rfl rfl ?_
    refine s_X1_takeBack hd hB hB2 g0 g1 g2 g3 (hq (by omega)) (hK (by omega)) hb gd gB (fun F1 A1 f1 kk => ?_)
    have ec : F1 14 2 = FI 14 2 - 1 := (f1.1 14 2 (by omega)).trans zsF_eq
    refine zv_aload_n C dX8_undo_23 rfl rfl ?_
    refine zv_getR C dX8_undo_24 f_X8_31 hd.1 rfl hd.2.2.2.2.2.2.2.2.2.2.2.1 ?_
    refine zv_getI C dX8_undo_27 f_X8_97 hd.2.2.2.2.2.1 rfl ?_
    rw [ec]
    refine zv_ireturn C dX8_undo_30 rfl rfl rfl rfl ?_
    exact hp (by omega) F1 A1 f1 kk
  · refine zv_iconst C dX8_undo_10 rfl ?_
    refine zv_ireturn C dX8_undo_11 rfl rfl rfl rfl ?_
    exact hn (by omega)
set_option maxRecDepth 20000 in
theorem s_X8_closing {T : zTt} {FR : zFR} {AR : zAR} {FI : zFI} {AI : zAI} {Post : zPost} {B D : Nat} {N : Int → Int} {nI nL : Nat} {o y what : Int} (hd : dLay T FR B D) (hB : bLay T FR B) (hK : bk FI AI B N) (hW : mW N nI nL) (hc : ∀ o y : Int, 0 ≤ o → o < N 2 → 0 ≤ y → y < N 0 → ∃ K, AR 16 (y * 3 + o) = some K ∧ kLay T FR K ∧ kV AI K N o y) (hp : Post (zI (aClo N o y what)) T FR AR FI AI) : zMet M_X8_closing [zR 0, zI o, zI y, zI what] T FR AR FI AI Post := by
  refine zMet.of [some (zR 0), some (zI o), some (zI y), some (zI what), none] rfl rfl rfl (fun G C => ?_)
  obtain ⟨k0, k1, k2, k3, k4, k5, k6, k7, k8⟩ := id hK
  obtain ⟨w0, w1, w2, w3, w4, w5, w6, w7, w8, w9⟩ := id hW
  refine zv_aload_n C dX8_closing_0 rfl rfl ?_
  refine zv_getR C dX8_closing_1 f_X8_44 hd.1 rfl hd.2.2.2.2.2.2.2.2.2.2.2.2.2.1 ?_
  refine zv_iload_n C dX8_closing_4 rfl ?_
  refine zv_cVi0_1 C dX8_closing_5 k_X2_hasOffice l_X8_135 hB.1 rfl ⟨Nat.le_of_ble_eq_true rfl, Nat.le_of_ble_eq_true rfl⟩ ⟨rfl, rfl⟩ ⟨Nat.le_of_ble_eq_true rfl, Nat.le_of_ble_eq_true rfl⟩ rfl rfl ?_
  refine s_X2_hasOffice hB hK (fun b5 => ?_) (fun b5 => ?_)
  · refine zv_if_eq C 32 dX8_closing_8 rfl (fun h => absurd h (by omega)) (fun _ => ?_)
    refine zv_iload_n C dX8_closing_11 rfl ?_
    refine zv_if_lt C 32 dX8_closing_12 rfl (fun h12 => ?_) (fun h12 => ?_)
    · refine zv_ldc (x := -100000000) C dX8_closing_32 c_X8_170 rfl ?_
      refine zv_ireturn C dX8_closing_34 rfl rfl rfl rfl ?_
      refine zpost ?_ hp
      unfold aClo
      first
      | (rw [if_neg (by omega)])
      | (rw [if_pos ⟨⟨by omega, by omega⟩, ⟨by omega, by omega⟩, by omega, by omega⟩]
         by_cases c5 : what < 5
         · rw [if_pos c5, hv1 what (by omega) c5]
         · rw [if_neg c5]
           by_cases c6 : what = 5
           · rw [if_pos c6, c6, hv2]
           · rw [if_neg c6, show what = 6 by omega, hv3])
    · refine zv_iload_n C dX8_closing_15 rfl ?_
      refine zv_aload_n C dX8_closing_16 rfl rfl ?_
      refine zv_getR C dX8_closing_17 f_X8_44 hd.1 rfl hd.2.2.2.2.2.2.2.2.2.2.2.2.2.1 ?_
      refine zv_getI C dX8_closing_20 f_X8_78 hB.1 rfl ?_
      refine zv_icmp_ge C 32 dX8_closing_23 rfl (fun h23 => ?_) (fun h23 => ?_)
      · refine zv_ldc (x := -100000000) C dX8_closing_32 c_X8_170 rfl ?_
        refine zv_ireturn C dX8_closing_34 rfl rfl rfl rfl ?_
        refine zpost ?_ hp
        unfold aClo
        first
        | (rw [if_neg (by omega)])
        | (rw [if_pos ⟨⟨by omega, by omega⟩, ⟨by omega, by omega⟩, by omega, by omega⟩]
           by_cases c5 : what < 5
           · rw [if_pos c5, hv1 what (by omega) c5]
           · rw [if_neg c5]
             by_cases c6 : what = 5
             · rw [if_pos c6, c6, hv2]
             · rw [if_neg c6, show what = 6 by omega, hv3])
      · refine zv_iload_n C dX8_closing_26 rfl ?_
        refine zv_bipush C dX8_closing_27 rfl ?_
        refine zv_icmp_lt C 35 dX8_closing_29 rfl (fun h29 => ?_) (fun h29 => ?_)
        · refine zv_aload_n C dX8_closing_35 rfl rfl ?_
          refine zv_getR C dX8_closing_36 f_X8_37 hd.1 rfl hd.2.2.2.2.2.2.2.2.2.2.2.2.1 ?_
          refine zv_iload_n C dX8_closing_39 rfl ?_
          refine zv_iconst C dX8_closing_40 rfl ?_
          refine zv_imul C dX8_closing_41 ⟨by omega, by omega⟩ ?_
          refine zv_iload_n C dX8_closing_42 rfl ?_
          refine zv_iadd C dX8_closing_43 ⟨by omega, by omega⟩ ?_
          obtain ⟨K, hq, hk, hv1, hv2, hv3⟩ := hc o y (by omega) (by omega) (by omega) (by omega)
          refine zv_aaload6 C dX8_closing_44 hd.2.2.2.2.2.2.2.1 ⟨by omega, by omega⟩ ?_
          rw [hq]
          refine zv_astore_4 C dX8_closing_45 rfl rfl rfl ?_
          refine zv_aload C dX8_closing_47 rfl rfl ?_
          refine zv_ifnull C 62 dX8_closing_49 rfl (fun h => by cases h) (fun _ _ => ?_)
          refine zv_iload_n C dX8_closing_52 rfl ?_
          refine zv_if_lt C 62 dX8_closing_53 rfl (fun h53 => ?_) (fun h53 => ?_)
          · refine zv_ldc (x := -100000000) C dX8_closing_62 c_X8_170 rfl ?_
            refine zv_ireturn C dX8_closing_64 rfl rfl rfl rfl ?_
            refine zpost ?_ hp
            unfold aClo
            first
            | (rw [if_neg (by omega)])
            | (rw [if_pos ⟨⟨by omega, by omega⟩, ⟨by omega, by omega⟩, by omega, by omega⟩]
               by_cases c5 : what < 5
               · rw [if_pos c5, hv1 what (by omega) c5]
               · rw [if_neg c5]
                 by_cases c6 : what = 5
                 · rw [if_pos c6, c6, hv2]
                 · rw [if_neg c6, show what = 6 by omega, hv3])
          · refine zv_iload_n C dX8_closing_56 rfl ?_
            refine zv_bipush C dX8_closing_57 rfl ?_
            refine zv_icmp_lt C 65 dX8_closing_59 rfl (fun h59 => ?_) (fun h59 => ?_)
            · refine zv_aload C dX8_closing_65 rfl rfl ?_
              refine zv_getR C dX8_closing_67 f_X8_174 hk.1 rfl hk.2.2.2.2.1 ?_
              refine zv_iload_n C dX8_closing_70 rfl ?_
              refine zv_iaload C dX8_closing_71 hk.2.1 ⟨by omega, by omega⟩ ?_
              refine zv_ireturn C dX8_closing_72 rfl rfl rfl rfl ?_
              refine zpost ?_ hp
              unfold aClo
              first
              | (rw [if_neg (by omega)])
              | (rw [if_pos ⟨⟨by omega, by omega⟩, ⟨by omega, by omega⟩, by omega, by omega⟩]
                 by_cases c5 : what < 5
                 · rw [if_pos c5, hv1 what (by omega) c5]
                 · rw [if_neg c5]
                   by_cases c6 : what = 5
                   · rw [if_pos c6, c6, hv2]
                   · rw [if_neg c6, show what = 6 by omega, hv3])
            · refine zv_ldc (x := -100000000) C dX8_closing_62 c_X8_170 rfl ?_
              refine zv_ireturn C dX8_closing_64 rfl rfl rfl rfl ?_
              refine zpost ?_ hp
              unfold aClo
              first
              | (rw [if_neg (by omega)])
              | (rw [if_pos ⟨⟨by omega, by omega⟩, ⟨by omega, by omega⟩, by omega, by omega⟩]
                 by_cases c5 : what < 5
                 · rw [if_pos c5, hv1 what (by omega) c5]
                 · rw [if_neg c5]
                   by_cases c6 : what = 5
                   · rw [if_pos c6, c6, hv2]
                   · rw [if_neg c6, show what = 6 by omega, hv3])
        · refine zv_ldc (x := -100000000) C dX8_closing_32 c_X8_170 rfl ?_
          refine zv_ireturn C dX8_closing_34 rfl rfl rfl rfl ?_
          refine zpost ?_ hp
          unfold aClo
          first
          | (rw [if_neg (by omega)])
          | (rw [if_pos ⟨⟨by omega, by omega⟩, ⟨by omega, by omega⟩, by omega, by omega⟩]
             by_cases c5 : what < 5
             · rw [if_pos c5, hv1 what (by omega) c5]
             · rw [if_neg c5]
               by_cases c6 : what = 5
               · rw [if_pos c6, c6, hv2]
               · rw [if_neg c6, show what = 6 by omega, hv3])
  · refine zv_if_eq C 32 dX8_closing_8 rfl (fun _ => ?_) (fun h => absurd h (by omega))
    refine zv_ldc (x := -100000000) C dX8_closing_32 c_X8_170 rfl ?_
    refine zv_ireturn C dX8_closing_34 rfl rfl rfl rfl ?_
    refine zpost ?_ hp
    unfold aClo
    first
    | (rw [if_neg (by omega)])
    | (rw [if_pos ⟨⟨by omega, by omega⟩, ⟨by omega, by omega⟩, by omega, by omega⟩]
       by_cases c5 : what < 5
       · rw [if_pos c5, hv1 what (by omega) c5]
       · rw [if_neg c5]
         by_cases c6 : what = 5
         · rw [if_pos c6, c6, hv2]
         · rw [if_neg c6, show what = 6 by omega, hv3])
