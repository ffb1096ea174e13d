set_option maxRecDepth 20000 in
theorem s_X8_item {T : zTt} {FR : zFR} {AR : zAR} {FI : zFI} {AI : zAI} {Post : zPost} {B D : Nat} {N : Int → Int} {nI nL : Nat} {i w : Int} (hd : dLay T FR B D) (hB : bLay T FR B) (hK : bk FI AI B N) (hW : mW N nI nL) (hp : okItem N i w → Post (zI (aItem N i w)) T FR AR FI AI) : zXMet M_X8_item [zR 0, zI i, zI w] T FR AR FI AI Post (¬ okItem N i w) := by
  refine zXMet.of [some (zR 0), some (zI i), some (zI w)] rfl rfl rfl (fun G C X => ?_)
  obtain ⟨k0, k1, k2, k3, k4, k5, k6, k7, k8⟩ := id hK
  obtain ⟨w0, w1, w2, w3, w4, w5, w6, w7, w8, w9⟩ := id hW
  refine zv_aload_n C dX8_item_0 rfl rfl ?_
  refine zv_getR C dX8_item_1 f_X8_44 hd.1 rfl hd.2.2.2.2.2.2.2.2.2.2.2.2.2.1 ?_
  refine zv_iload_n C dX8_item_4 rfl ?_
  refine zv_cVi0_1 C dX8_item_5 k_X2_hasItem l_X8_100 hB.1 rfl ⟨Nat.le_of_ble_eq_true rfl, Nat.le_of_ble_eq_true rfl⟩ ⟨rfl, rfl⟩ ⟨Nat.le_of_ble_eq_true rfl, Nat.le_of_ble_eq_true rfl⟩ rfl rfl ?_
  refine s_X2_hasItem hB hK (fun b5 => ?_) (fun b5 => ?_)
  · refine zv_if_ne C 21 dX8_item_8 rfl (fun _ => ?_) (fun h => absurd h (by omega))
    refine zv_iload_n C dX8_item_21 rfl ?_
    refine zv_if_lt C 44 dX8_item_22 rfl (fun h22 => ?_) (fun h22 => ?_)
    · refine zv_iload_n C dX8_item_44 rfl ?_
      refine zv_iconst C dX8_item_45 rfl ?_
      refine zv_icmp_ne C 58 dX8_item_46 rfl (fun h46 => ?_) (fun h46 => ?_)
      · refine zv_iload_n C dX8_item_58 rfl ?_
        refine zv_bipush C dX8_item_59 rfl ?_
        refine zv_icmp_lt C 71 dX8_item_61 rfl (fun h61 => ?_) (fun h61 => ?_)
        · refine zv_throw C X (is := 119) (text := "nothing of that kind is told of an item") rfl (List.mem_of_getElem? (i := 1) rfl) dX8_item_71 dX8_item_74 dX8_item_75 dX8_item_77 dX8_item_80 (Nat.le_of_ble_eq_true rfl) (Nat.le_of_ble_eq_true rfl) (Nat.le_of_ble_eq_true rfl) (Nat.le_of_ble_eq_true rfl) ?_
          unfold okItem
          omega
        · refine zv_iload_n C dX8_item_64 rfl ?_
          refine zv_sipush C dX8_item_65 rfl ?_
          refine zv_icmp_le C 81 dX8_item_68 rfl (fun h68 => ?_) (fun h68 => ?_)
          · refine zv_aload_n C dX8_item_81 rfl rfl ?_
            refine zv_getR C dX8_item_82 f_X8_44 hd.1 rfl hd.2.2.2.2.2.2.2.2.2.2.2.2.2.1 ?_
            refine zv_iload_n C dX8_item_85 rfl ?_
            refine zv_iload_n C dX8_item_86 rfl ?_
            refine zv_bipush C dX8_item_87 rfl ?_
            refine zv_isub C dX8_item_89 ⟨by omega, by omega⟩ ?_
            refine zv_cVi0_2 C dX8_item_90 k_X2_partOf l_X8_121 hB.1 rfl ⟨Nat.le_of_ble_eq_true rfl, Nat.le_of_ble_eq_true rfl⟩ ⟨rfl, rfl⟩ ⟨Nat.le_of_ble_eq_true rfl, Nat.le_of_ble_eq_true rfl⟩ rfl rfl ?_
            refine s_X2_partOf hB hK (by omega) (by omega) (by omega) (w8 i (by omega) (by omega)) (by omega) (by omega) ?_
            refine zv_ireturn C dX8_item_93 rfl rfl rfl rfl ?_
            refine zpost ?_ (hp (by unfold okItem; omega))
            unfold aItem
            rw [if_neg (by omega), if_neg (by omega)]
          · refine zv_throw C X (is := 119) (text := "nothing of that kind is told of an item") rfl (List.mem_of_getElem? (i := 1) rfl) dX8_item_71 dX8_item_74 dX8_item_75 dX8_item_77 dX8_item_80 (Nat.le_of_ble_eq_true rfl) (Nat.le_of_ble_eq_true rfl) (Nat.le_of_ble_eq_true rfl) (Nat.le_of_ble_eq_true rfl) ?_
            unfold okItem
            omega
      · refine zv_aload_n C dX8_item_49 rfl rfl ?_
        refine zv_getR C dX8_item_50 f_X8_44 hd.1 rfl hd.2.2.2.2.2.2.2.2.2.2.2.2.2.1 ?_
        refine zv_iload_n C dX8_item_53 rfl ?_
        refine zv_cVi0_1 C dX8_item_54 k_X2_openOf l_X8_115 hB.1 rfl ⟨Nat.le_of_ble_eq_true rfl, Nat.le_of_ble_eq_true rfl⟩ ⟨rfl, rfl⟩ ⟨Nat.le_of_ble_eq_true rfl, Nat.le_of_ble_eq_true rfl⟩ rfl rfl ?_
        refine s_X2_openOf hB hK (by omega) (by omega) (by omega) (w8 i (by omega) (by omega)) (by omega) (by omega) ?_
        refine zv_ireturn C dX8_item_57 rfl rfl rfl rfl ?_
        refine zpost ?_ (hp (by unfold okItem; omega))
        unfold aItem
        rw [if_neg (by omega), if_pos (by omega)]
    · refine zv_iload_n C dX8_item_25 rfl ?_
      refine zv_iconst C dX8_item_26 rfl ?_
      refine zv_icmp_ge C 44 dX8_item_27 rfl (fun h27 => ?_) (fun h27 => ?_)
      · refine zv_iload_n C dX8_item_44 rfl ?_
        refine zv_iconst C dX8_item_45 rfl ?_
        refine zv_icmp_ne C 58 dX8_item_46 rfl (fun h46 => ?_) (fun h46 => ?_)
        · refine zv_iload_n C dX8_item_58 rfl ?_
          refine zv_bipush C dX8_item_59 rfl ?_
          refine zv_icmp_lt C 71 dX8_item_61 rfl (fun h61 => ?_) (fun h61 => ?_)
          · refine zv_throw C X (is := 119) (text := "nothing of that kind is told of an item") rfl (List.mem_of_getElem? (i := 1) rfl) dX8_item_71 dX8_item_74 dX8_item_75 dX8_item_77 dX8_item_80 (Nat.le_of_ble_eq_true rfl) (Nat.le_of_ble_eq_true rfl) (Nat.le_of_ble_eq_true rfl) (Nat.le_of_ble_eq_true rfl) ?_
            unfold okItem
            omega
          · refine zv_iload_n C dX8_item_64 rfl ?_
            refine zv_sipush C dX8_item_65 rfl ?_
            refine zv_icmp_le C 81 dX8_item_68 rfl (fun h68 => ?_) (fun h68 => ?_)
            · refine zv_aload_n C dX8_item_81 rfl rfl ?_
              refine zv_getR C dX8_item_82 f_X8_44 hd.1 rfl hd.2.2.2.2.2.2.2.2.2.2.2.2.2.1 ?_
              refine zv_iload_n C dX8_item_85 rfl ?_
              refine zv_iload_n C dX8_item_86 rfl ?_
              refine zv_bipush C dX8_item_87 rfl ?_
              refine zv_isub C dX8_item_89 ⟨by omega, by omega⟩ ?_
              refine zv_cVi0_2 C dX8_item_90 k_X2_partOf l_X8_121 hB.1 rfl ⟨Nat.le_of_ble_eq_true rfl, Nat.le_of_ble_eq_true rfl⟩ ⟨rfl, rfl⟩ ⟨Nat.le_of_ble_eq_true rfl, Nat.le_of_ble_eq_true rfl⟩ rfl rfl ?_
              refine s_X2_partOf hB hK (by omega) (by omega) (by omega) (w8 i (by omega) (by omega)) (by omega) (by omega) ?_
              refine zv_ireturn C dX8_item_93 rfl rfl rfl rfl ?_
              refine zpost ?_ (hp (by unfold okItem; omega))
              unfold aItem
              rw [if_neg (by omega), if_neg (by omega)]
            · refine zv_throw C X (is := 119) (text := "nothing of that kind is told of an item") rfl (List.mem_of_getElem? (i := 1) rfl) dX8_item_71 dX8_item_74 dX8_item_75 dX8_item_77 dX8_item_80 (Nat.le_of_ble_eq_true rfl) (Nat.le_of_ble_eq_true rfl) (Nat.le_of_ble_eq_true rfl) (Nat.le_of_ble_eq_true rfl) ?_
              unfold okItem
              omega
        · refine zv_aload_n C dX8_item_49 rfl rfl ?_
          refine zv_getR C dX8_item_50 f_X8_44 hd.1 rfl hd.2.2.2.2.2.2.2.2.2.2.2.2.2.1 ?_
          refine zv_iload_n C dX8_item_53 rfl ?_
          refine zv_cVi0_1 C dX8_item_54 k_X2_openOf l_X8_115 hB.1 rfl ⟨Nat.le_of_ble_eq_true rfl, Nat.le_of_ble_eq_true rfl⟩ ⟨rfl, rfl⟩ ⟨Nat.le_of_ble_eq_true rfl, Nat.le_of_ble_eq_true rfl⟩ rfl rfl ?_
          refine s_X2_openOf hB hK (by omega) (by omega) (by omega) (w8 i (by omega) (by omega)) (by omega) (by omega) ?_
          refine zv_ireturn C dX8_item_57 rfl rfl rfl rfl ?_
          refine zpost ?_ (hp (by unfold okItem; omega))
          unfold aItem
          rw [if_neg (by omega), if_pos (by omega)]
      · refine zv_aload_n C dX8_item_30 rfl rfl ?_
        refine zv_getR C dX8_item_31 f_X8_44 hd.1 rfl hd.2.2.2.2.2.2.2.2.2.2.2.2.2.1 ?_
        refine zv_getR C dX8_item_34 f_X8_111 hB.1 rfl hB.2.2.2.2.2.2.2.1 ?_
        refine zv_iload_n C dX8_item_37 rfl ?_
        refine zv_iconst C dX8_item_38 rfl ?_
        refine zv_imul C dX8_item_39 ⟨by omega, by omega⟩ ?_
        refine zv_iload_n C dX8_item_40 rfl ?_
        refine zv_iadd C dX8_item_41 ⟨by omega, by omega⟩ ?_
        rw [show i * 5 + w = i * 5 + w from rfl]
        refine zv_iaload C dX8_item_42 hB.2.2.2.1 ⟨by omega, by omega⟩ ?_
        refine zv_ireturn C dX8_item_43 rfl rfl rfl rfl ?_
        refine zpost ?_ (hp (by unfold okItem; omega))
        unfold aItem
        rw [if_pos (by omega)]
        exact (k7 i w (by omega) (by omega) (by omega) (by omega)).symm
  · refine zv_if_ne C 21 dX8_item_8 rfl (fun h => absurd h (by omega)) (fun _ => ?_)
    refine zv_throw C X (is := 106) (text := "no such item") rfl (List.mem_of_getElem? (i := 0) rfl) dX8_item_11 dX8_item_14 dX8_item_15 dX8_item_17 dX8_item_20 (Nat.le_of_ble_eq_true rfl) (Nat.le_of_ble_eq_true rfl) (Nat.le_of_ble_eq_true rfl) (Nat.le_of_ble_eq_true rfl) ?_
    unfold okItem
    omega
set_option maxRecDepth 20000 in
theorem s_X8_loss {T : zTt} {FR : zFR} {AR : zAR} {FI : zFI} {AI : zAI} {Post : zPost} {B D : Nat} {N : Int → Int} {nI nL : Nat} {i w : Int} (hd : dLay T FR B D) (hB : bLay T FR B) (hK : bk FI AI B N) (hW : mW N nI nL) (hp : okLoss N i w → Post (zI (mLo N i w)) T FR AR FI AI) : zXMet M_X8_loss [zR 0, zI i, zI w] T FR AR FI AI Post (¬ okLoss N i w) := by
  refine zXMet.of [some (zR 0), some (zI i), some (zI w)] rfl rfl rfl (fun G C X => ?_)
  obtain ⟨k0, k1, k2, k3, k4, k5, k6, k7, k8⟩ := id hK
  obtain ⟨w0, w1, w2, w3, w4, w5, w6, w7, w8, w9⟩ := id hW
  refine zv_aload_n C dX8_loss_0 rfl rfl ?_
  refine zv_getR C dX8_loss_1 f_X8_44 hd.1 rfl hd.2.2.2.2.2.2.2.2.2.2.2.2.2.1 ?_
  refine zv_iload_n C dX8_loss_4 rfl ?_
  refine zv_cVi0_1 C dX8_loss_5 k_X2_hasLoss l_X8_125 hB.1 rfl ⟨Nat.le_of_ble_eq_true rfl, Nat.le_of_ble_eq_true rfl⟩ ⟨rfl, rfl⟩ ⟨Nat.le_of_ble_eq_true rfl, Nat.le_of_ble_eq_true rfl⟩ rfl rfl ?_
  refine s_X2_hasLoss hB hK (fun b5 => ?_) (fun b5 => ?_)
  · refine zv_if_ne C 21 dX8_loss_8 rfl (fun _ => ?_) (fun h => absurd h (by omega))
    refine zv_iload_n C dX8_loss_21 rfl ?_
    refine zv_if_lt C 30 dX8_loss_22 rfl (fun h22 => ?_) (fun h22 => ?_)
    · refine zv_throw C X (is := 130) (text := "nothing of that kind is told of a loss") rfl (List.mem_of_getElem? (i := 3) rfl) dX8_loss_30 dX8_loss_33 dX8_loss_34 dX8_loss_36 dX8_loss_39 (Nat.le_of_ble_eq_true rfl) (Nat.le_of_ble_eq_true rfl) (Nat.le_of_ble_eq_true rfl) (Nat.le_of_ble_eq_true rfl) ?_
      unfold okLoss
      omega
    · refine zv_iload_n C dX8_loss_25 rfl ?_
      refine zv_iconst C dX8_loss_26 rfl ?_
      refine zv_icmp_lt C 40 dX8_loss_27 rfl (fun h27 => ?_) (fun h27 => ?_)
      · refine zv_aload_n C dX8_loss_40 rfl rfl ?_
        refine zv_getR C dX8_loss_41 f_X8_44 hd.1 rfl hd.2.2.2.2.2.2.2.2.2.2.2.2.2.1 ?_
        refine zv_getR C dX8_loss_44 f_X8_132 hB.1 rfl hB.2.2.2.2.2.2.2.2 ?_
        refine zv_iload_n C dX8_loss_47 rfl ?_
        refine zv_iconst C dX8_loss_48 rfl ?_
        refine zv_imul C dX8_loss_49 ⟨by omega, by omega⟩ ?_
        refine zv_iload_n C dX8_loss_50 rfl ?_
        refine zv_iadd C dX8_loss_51 ⟨by omega, by omega⟩ ?_
        refine zv_iaload C dX8_loss_52 hB.2.2.2.2.1 ⟨by omega, by omega⟩ ?_
        refine zv_ireturn C dX8_loss_53 rfl rfl rfl rfl ?_
        refine zpost ?_ (hp (by unfold okLoss; omega))
        exact (k8 i w (by omega) (by omega) (by omega) (by omega)).symm
      · refine zv_throw C X (is := 130) (text := "nothing of that kind is told of a loss") rfl (List.mem_of_getElem? (i := 3) rfl) dX8_loss_30 dX8_loss_33 dX8_loss_34 dX8_loss_36 dX8_loss_39 (Nat.le_of_ble_eq_true rfl) (Nat.le_of_ble_eq_true rfl) (Nat.le_of_ble_eq_true rfl) (Nat.le_of_ble_eq_true rfl) ?_
        unfold okLoss
        omega
  · refine zv_if_ne C 21 dX8_loss_8 rfl (fun h => absurd h (by omega)) (fun _ => ?_)
    refine zv_throw C X (is := 128) (text := "no such loss") rfl (List.mem_of_getElem? (i := 2) rfl) dX8_loss_11 dX8_loss_14 dX8_loss_15 dX8_loss_17 dX8_loss_20 (Nat.le_of_ble_eq_true rfl) (Nat.le_of_ble_eq_true rfl) (Nat.le_of_ble_eq_true rfl) (Nat.le_of_ble_eq_true rfl) ?_
    unfold okLoss
    omega
def M_L_item : zMd := (yL_item, cL_item, 5, (some .int), { frames := 7, cells := 1, slots := 6, locals := 112 })
theorem cw_L_item : Cond.codeWith yL_item cL_item 5 (some .int) [(0, 10, 13, 13)] ∈ zWs := zWs_at 731 (by decide +kernel) (by decide +kernel)
theorem stt_L_item : Cond.static yL_item ∈ zWs := zWs_at 730 (by decide +kernel) (by decide +kernel)
theorem kh_L_item : zMh M_L_item [(0, 10, 13, 13)] 4 := ⟨cw_L_item, ini_0, ⟨by decide, by decide⟩, by decide +kernel, stt_L_item⟩
set_option maxRecDepth 20000 in
theorem s_L_item {T : zTt} {FR : zFR} {AR : zAR} {FI : zFI} {AI : zAI} {Post : zPost} {B D : Nat} {N : Int → Int} {nI nL : Nat} {i w : Int} (h90 : T 90 = (4, 1)) (hd : dLay T FR B D) (hB : bLay T FR B) (hK : bk FI AI B N) (hW : mW N nI nL) (hp : okItem N i w → Post (zI 0) T FR AR FI (zsA AI 90 0 (aItem N i w))) (hx : ¬ okItem N i w → Post (zI 1) T FR AR FI AI) : zHMet M_L_item [(0, 10, 13, 13)] [zR 0, zI i, zI w, zR 90] T FR AR FI AI Post := by
  refine zHMet.of [some (zR 0), some (zI i), some (zI w), some (zR 90), none] rfl rfl rfl (fun G C X => ?_)
  refine zv_aload_n C dL_item_0 rfl rfl ?_
  refine zv_iconst C dL_item_1 rfl ?_
  refine zv_aload_n C dL_item_2 rfl rfl ?_
  refine zv_iload_n C dL_item_3 rfl ?_
  refine zv_iload_n C dL_item_4 rfl ?_
  refine zg_callVX C X (as := [zI i, zI w]) (M' := M_X8_item) (XP := ¬ okItem N i w) dL_item_5 k_X8_item l_L_7 hd.1 rfl rfl ⟨Nat.le_of_ble_eq_true rfl, Nat.le_of_ble_eq_true rfl⟩ ⟨Nat.le_of_ble_eq_true rfl, Nat.le_of_ble_eq_true rfl⟩ rfl (by decide) cl_L_13 dL_item_13 rfl ?_ ?_
  · refine s_X8_item hd hB hK hW (fun ok => ?_)
    show zV G 8 [some (zR 0), some (zI i), some (zI w), some (zR 90), none] [zI (aItem N i w), zI 0, zR 90] T FR AR FI AI 1 6
    refine zv_i2l C dL_item_8 ?_
    refine zv_lastore C dL_item_9 h90 ⟨by omega, by omega⟩ ?_
    refine zv_goto C 17 dL_item_10 rfl ?_
    refine zv_iconst C dL_item_17 rfl ?_
    refine zv_ireturn C dL_item_18 rfl rfl rfl rfl ?_
    exact hp ok
  · intro no
    show zV G 15 [] [] T FR AR FI AI 1 6
    refine zv_iconst C dL_item_15 rfl ?_
    refine zv_ireturn C dL_item_16 rfl rfl rfl rfl ?_
    exact hx no
def M_L_loss : zMd := (yL_loss, cL_loss, 5, (some .int), { frames := 7, cells := 1, slots := 6, locals := 112 })
theorem cw_L_loss : Cond.codeWith yL_loss cL_loss 5 (some .int) [(0, 10, 13, 13)] ∈ zWs := zWs_at 806 (by decide +kernel) (by decide +kernel)
theorem stt_L_loss : Cond.static yL_loss ∈ zWs := zWs_at 805 (by decide +kernel) (by decide +kernel)
theorem kh_L_loss : zMh M_L_loss [(0, 10, 13, 13)] 4 := ⟨cw_L_loss, ini_0, ⟨by decide, by decide⟩, by decide +kernel, stt_L_loss⟩
set_option maxRecDepth 20000 in
theorem s_L_loss {T : zTt} {FR : zFR} {AR : zAR} {FI : zFI} {AI : zAI} {Post : zPost} {B D : Nat} {N : Int → Int} {nI nL : Nat} {i w : Int} (h90 : T 90 = (4, 1)) (hd : dLay T FR B D) (hB : bLay T FR B) (hK : bk FI AI B N) (hW : mW N nI nL) (hp : okLoss N i w → Post (zI 0) T FR AR FI (zsA AI 90 0 (mLo N i w))) (hx : ¬ okLoss N i w → Post (zI 1) T FR AR FI AI) : zHMet M_L_loss [(0, 10, 13, 13)] [zR 0, zI i, zI w, zR 90] T FR AR FI AI Post := by
  refine zHMet.of [some (zR 0), some (zI i), some (zI w), some (zR 90), none] rfl rfl rfl (fun G C X => ?_)
  refine zv_aload_n C dL_loss_0 rfl rfl ?_
  refine zv_iconst C dL_loss_1 rfl ?_
  refine zv_aload_n C dL_loss_2 rfl rfl ?_
  refine zv_iload_n C dL_loss_3 rfl ?_
  refine zv_iload_n C dL_loss_4 rfl ?_
  refine zg_callVX C X (as := [zI i, zI w]) (M' := M_X8_loss) (XP := ¬ okLoss N i w) dL_loss_5 k_X8_loss l_L_15 hd.1 rfl rfl ⟨Nat.le_of_ble_eq_true rfl, Nat.le_of_ble_eq_true rfl⟩ ⟨Nat.le_of_ble_eq_true rfl, Nat.le_of_ble_eq_true rfl⟩ rfl (by decide) cl_L_13 dL_loss_13 rfl ?_ ?_
  · refine s_X8_loss hd hB hK hW (fun ok => ?_)
    show zV G 8 [some (zR 0), some (zI i), some (zI w), some (zR 90), none] [zI (mLo N i w), zI 0, zR 90] T FR AR FI AI 1 6
    refine zv_i2l C dL_loss_8 ?_
    refine zv_lastore C dL_loss_9 h90 ⟨by omega, by omega⟩ ?_
    refine zv_goto C 17 dL_loss_10 rfl ?_
    refine zv_iconst C dL_loss_17 rfl ?_
    refine zv_ireturn C dL_loss_18 rfl rfl rfl rfl ?_
    exact hp ok
  · intro no
    show zV G 15 [] [] T FR AR FI AI 1 6
    refine zv_iconst C dL_loss_15 rfl ?_
    refine zv_ireturn C dL_loss_16 rfl rfl rfl rfl ?_
    exact hx no
