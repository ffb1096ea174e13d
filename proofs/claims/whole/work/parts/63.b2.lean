set_option maxRecDepth 20000 in
theorem s_X2_setRate {T : zTt} {FR : zFR} {AR : zAR} {FI : zFI} {AI : zAI} {Post : zPost} {B : Nat} {o fr r : Int} (hB : bLay T FR B) (g0 : 0 ≤ o) (g1 : o < 3) (g2 : 0 ≤ fr) (g3 : fr ≤ 40) (hp : Post (zI 0) T FR AR FI (zfill AI (B + 1) (o * 40 + fr) (o * 40 + 40) r)) : zMet M_X2_setRate [zR B, zI o, zI fr, zI r] T FR AR FI AI Post := by
  refine zMet.of [some (zR B), some (zI o), some (zI fr), some (zI r), none] rfl rfl rfl (fun G C => ?_)
  refine zv_iload_n C dX2_setRate_0 rfl ?_
  refine zv_istore_4 C dX2_setRate_1 rfl rfl ?_
  suffices lp : ∀ (d : Nat) (y : Int), y + d = 40 → fr ≤ y → zV G 3 [some (zR B), some (zI o), some (zI fr), some (zI r), some (zI y)] [] T FR AR FI (zfill AI (B + 1) (o * 40 + fr) (o * 40 + y) r) 0 0 from by
    have q := lp (40 - fr).toNat fr (by omega) (by omega)
    rw [zfill_0] at q
    exact q
  intro d
  induction d with
  | zero =>
    intro y hj hf
    refine zv_iload C dX2_setRate_3 rfl ?_
    refine zv_bipush C dX2_setRate_5 rfl ?_
    refine zv_icmp_gt C 29 dX2_setRate_7 rfl (fun h7 => ?_) (fun h7 => absurd h7 (by omega))
    refine zv_return C dX2_setRate_29 rfl rfl rfl ?_
    have ej : y = 40 := by omega
    rw [ej]
    exact hp
  | succ d ih =>
    intro y hj hf
    have q := ih (y + 1) (by omega) (by omega)
    refine zv_iload C dX2_setRate_3 rfl ?_
    refine zv_bipush C dX2_setRate_5 rfl ?_
    refine zv_icmp_gt C 29 dX2_setRate_7 rfl (fun h7 => absurd h7 (by omega)) (fun h7 => ?_)
    refine zv_aload_n C dX2_setRate_10 rfl rfl ?_
    refine zv_getR C dX2_setRate_11 f_X2_9 hB.1 rfl hB.2.2.2.2.2.1 ?_
    refine zv_iload_n C dX2_setRate_14 rfl ?_
    refine zv_bipush C dX2_setRate_15 rfl ?_
    refine zv_imul C dX2_setRate_17 ⟨by omega, by omega⟩ ?_
    refine zv_iload C dX2_setRate_18 rfl ?_
    refine zv_iadd C dX2_setRate_20 ⟨by omega, by omega⟩ ?_
    refine zv_iload_n C dX2_setRate_21 rfl ?_
    refine zv_iastore C dX2_setRate_22 hB.2.1 ⟨by omega, by omega⟩ ?_
    rw [zfill_step (by omega), show o * 40 + y + 1 = o * 40 + (y + 1) by omega]
    refine zv_iinc_4 C dX2_setRate_23 rfl rfl ⟨by omega, by omega⟩ ?_
    refine zv_goto C 3 dX2_setRate_26 rfl ?_
    exact q

set_option maxRecDepth 20000 in
theorem s_X2_addItem {T : zTt} {FR : zFR} {AR : zAR} {FI : zFI} {AI : zAI} {Post : zPost} {B : Nat} {N : Int → Int} {o tx s f l : Int} (hB : bLay T FR B) (hK : bk FI AI B N) (hb : 0 ≤ N 3 ∧ N 2 ≤ 3 ∧ N 3 < 30 ∧ N 4 ≤ 10) (hp : ∀ (F1 : zFI) (A1 : zAI), bFr B FI F1 AI A1 → bk F1 A1 B (nArise N o (if tx = 0 then 0 else 1) s f l) → Post (zI (N 3)) T FR AR F1 A1) : zMet M_X2_addItem [zR B, zI o, zI tx, zI s, zI f, zI l] T FR AR FI AI Post := by
  refine zMet.of [some (zR B), some (zI o), some (zI tx), some (zI s), some (zI f), some (zI l), none] rfl rfl rfl (fun G C => ?_)
  obtain ⟨k0, k1, k2, k3, k4, k5, k6, k7, k8⟩ := id hK
  refine zv_aload_n C dX2_addItem_0 rfl rfl ?_
  refine zv_getI C dX2_addItem_1 f_X2_34 hB.1 rfl ?_
  refine zv_iconst C dX2_addItem_4 rfl ?_
  refine zv_imul C dX2_addItem_5 ⟨by omega, by omega⟩ ?_
  refine zv_istore_6 C dX2_addItem_6 rfl rfl ?_
  refine zv_aload_n C dX2_addItem_8 rfl rfl ?_
  refine zv_getR C dX2_addItem_9 f_X2_18 hB.1 rfl hB.2.2.2.2.2.2.2.1 ?_
  refine zv_iload C dX2_addItem_12 rfl ?_
  refine zv_iconst C dX2_addItem_14 rfl ?_
  refine zv_iadd C dX2_addItem_15 ⟨by omega, by omega⟩ ?_
  refine zv_iload_n C dX2_addItem_16 rfl ?_
  refine zv_iastore C dX2_addItem_17 hB.2.2.2.1 ⟨by omega, by omega⟩ ?_
  refine zv_aload_n C dX2_addItem_18 rfl rfl ?_
  refine zv_getR C dX2_addItem_19 f_X2_18 hB.1 rfl hB.2.2.2.2.2.2.2.1 ?_
  refine zv_iload C dX2_addItem_22 rfl ?_
  refine zv_iconst C dX2_addItem_24 rfl ?_
  refine zv_iadd C dX2_addItem_25 ⟨by omega, by omega⟩ ?_
  refine zv_iload_n C dX2_addItem_26 rfl ?_
  refine zv_if_eq C 34 dX2_addItem_27 rfl (fun h27 => ?_) (fun h27 => ?_)
  · refine zv_iconst C dX2_addItem_34 rfl ?_
    refine zv_iastore C dX2_addItem_35 hB.2.2.2.1 ⟨by omega, by omega⟩ ?_
    refine zv_aload_n C dX2_addItem_36 rfl rfl ?_
    refine zv_getR C dX2_addItem_37 f_X2_18 hB.1 rfl hB.2.2.2.2.2.2.2.1 ?_
    refine zv_iload C dX2_addItem_40 rfl ?_
    refine zv_iconst C dX2_addItem_42 rfl ?_
    refine zv_iadd C dX2_addItem_43 ⟨by omega, by omega⟩ ?_
    refine zv_iload_n C dX2_addItem_44 rfl ?_
    refine zv_iastore C dX2_addItem_45 hB.2.2.2.1 ⟨by omega, by omega⟩ ?_
    refine zv_aload_n C dX2_addItem_46 rfl rfl ?_
    refine zv_getR C dX2_addItem_47 f_X2_18 hB.1 rfl hB.2.2.2.2.2.2.2.1 ?_
    refine zv_iload C dX2_addItem_50 rfl ?_
    refine zv_iconst C dX2_addItem_52 rfl ?_
    refine zv_iadd C dX2_addItem_53 ⟨by omega, by omega⟩ ?_
    refine zv_iload C dX2_addItem_54 rfl ?_
    refine zv_iastore C dX2_addItem_56 hB.2.2.2.1 ⟨by omega, by omega⟩ ?_
    refine zv_aload_n C dX2_addItem_57 rfl rfl ?_
    refine zv_getR C dX2_addItem_58 f_X2_18 hB.1 rfl hB.2.2.2.2.2.2.2.1 ?_
    refine zv_iload C dX2_addItem_61 rfl ?_
    refine zv_iconst C dX2_addItem_63 rfl ?_
    refine zv_iadd C dX2_addItem_64 ⟨by omega, by omega⟩ ?_
    refine zv_iload C dX2_addItem_65 rfl ?_
    refine zv_iastore C dX2_addItem_67 hB.2.2.2.1 ⟨by omega, by omega⟩ ?_
    refine zv_aload_n C dX2_addItem_68 rfl rfl ?_
    refine zv_dup C dX2_addItem_69 rfl ?_
    refine zv_getI C dX2_addItem_70 f_X2_34 hB.1 rfl ?_
    refine zv_iconst C dX2_addItem_73 rfl ?_
    refine zv_iadd C dX2_addItem_74 ⟨by omega, by omega⟩ ?_
    refine zv_putI C dX2_addItem_75 f_X2_34 hB.1 rfl ?_
    refine zv_aload_n C dX2_addItem_78 rfl rfl ?_
    refine zv_getI C dX2_addItem_79 f_X2_34 hB.1 rfl ?_
    try simp (disch := omega) only [zsF_eq, zsF_ne]
    refine zv_iconst C dX2_addItem_82 rfl ?_
    refine zv_isub C dX2_addItem_83 ⟨by omega, by omega⟩ ?_
    refine zv_ireturn C dX2_addItem_84 rfl rfl rfl rfl ?_
    rw [k3]
    refine zpost (show N 3 = N 3 + 1 - 1 by omega) (hp _ _ (bFr.setF (((((bFr.rfl.setA ⟨by omega, by omega⟩).setA ⟨by omega, by omega⟩).setA ⟨by omega, by omega⟩).setA ⟨by omega, by omega⟩).setA ⟨by omega, by omega⟩)) ?_)
    have e3 : nArise N o (if tx = 0 then 0 else 1) s f l 3 = N 3 + 1 := by unfold nArise; rw [zu1_eq]
    refine bk_item (q := N 3) hK (by omega) (by omega) (by omega) (by omega) (Or.inr rfl) (fun j a b c d => ?_) ?_ (fun j a b c => ?_) (fun a b c d => ?_) (fun j c => ?_) (fun f' c d => ?_) (by omega)
    · unfold nArise
      simp (disch := omega) only [zu1_ne]
    · rw [zsF_eq, e3]
    · exact zsF_ne (Or.inr c)
    · simp (disch := omega) only [zsA_neF]
    · simp (disch := omega) only [zsA_nj]
    · unfold nArise
      rcases (show f' = 0 ∨ f' = 1 ∨ f' = 2 ∨ f' = 3 ∨ f' = 4 by omega) with e | e | e | e | e <;> subst e <;> simp (disch := omega) only [zsA_eqF, zu1_ne, zu1_eq] <;> (try (first | (rw [if_pos (by omega)]) | (rw [if_neg (by omega)])))
  · refine zv_iconst C dX2_addItem_30 rfl ?_
    refine zv_goto C 35 dX2_addItem_31 rfl ?_
    refine zv_iastore C dX2_addItem_35 hB.2.2.2.1 ⟨by omega, by omega⟩ ?_
    refine zv_aload_n C dX2_addItem_36 rfl rfl ?_
    refine zv_getR C dX2_addItem_37 f_X2_18 hB.1 rfl hB.2.2.2.2.2.2.2.1 ?_
    refine zv_iload C dX2_addItem_40 rfl ?_
    refine zv_iconst C dX2_addItem_42 rfl ?_
    refine zv_iadd C dX2_addItem_43 ⟨by omega, by omega⟩ ?_
    refine zv_iload_n C dX2_addItem_44 rfl ?_
    refine zv_iastore C dX2_addItem_45 hB.2.2.2.1 ⟨by omega, by omega⟩ ?_
    refine zv_aload_n C dX2_addItem_46 rfl rfl ?_
    refine zv_getR C dX2_addItem_47 f_X2_18 hB.1 rfl hB.2.2.2.2.2.2.2.1 ?_
    refine zv_iload C dX2_addItem_50 rfl ?_
    refine zv_iconst C dX2_addItem_52 rfl ?_
    refine zv_iadd C dX2_addItem_53 ⟨by omega, by omega⟩ ?_
    refine zv_iload C dX2_addItem_54 rfl ?_
    refine zv_iastore C dX2_addItem_56 hB.2.2.2.1 ⟨by omega, by omega⟩ ?_
    refine zv_aload_n C dX2_addItem_57 rfl rfl ?_
    refine zv_getR C dX2_addItem_58 f_X2_18 hB.1 rfl hB.2.2.2.2.2.2.2.1 ?_
    refine zv_iload C dX2_addItem_61 rfl ?_
    refine zv_iconst C dX2_addItem_63 rfl ?_
    refine zv_iadd C dX2_addItem_64 ⟨by omega, by omega⟩ ?_
    refine zv_iload C dX2_addItem_65 rfl ?_
    refine zv_iastore C dX2_addItem_67 hB.2.2.2.1 ⟨by omega, by omega⟩ ?_
    refine zv_aload_n C dX2_addItem_68 rfl rfl ?_
    refine zv_dup C dX2_addItem_69 rfl ?_
    refine zv_getI C dX2_addItem_70 f_X2_34 hB.1 rfl ?_
    try simp (disch := omega) only [zsF_eq, zsF_ne]
    refine zv_iconst C dX2_addItem_73 rfl ?_
    refine zv_iadd C dX2_addItem_74 ⟨by omega, by omega⟩ ?_
    refine zv_putI C dX2_addItem_75 f_X2_34 hB.1 rfl ?_
    refine zv_aload_n C dX2_addItem_78 rfl rfl ?_
    refine zv_getI C dX2_addItem_79 f_X2_34 hB.1 rfl ?_
    try simp (disch := omega) only [zsF_eq, zsF_ne]
    refine zv_iconst C dX2_addItem_82 rfl ?_
    refine zv_isub C dX2_addItem_83 ⟨by omega, by omega⟩ ?_
    refine zv_ireturn C dX2_addItem_84 rfl rfl rfl rfl ?_
    rw [k3]
    refine zpost (show N 3 = N 3 + 1 - 1 by omega) (hp _ _ (bFr.setF (((((bFr.rfl.setA ⟨by omega, by omega⟩).setA ⟨by omega, by omega⟩).setA ⟨by omega, by omega⟩).setA ⟨by omega, by omega⟩).setA ⟨by omega, by omega⟩)) ?_)
    have e3 : nArise N o (if tx = 0 then 0 else 1) s f l 3 = N 3 + 1 := by unfold nArise; rw [zu1_eq]
    refine bk_item (q := N 3) hK (by omega) (by omega) (by omega) (by omega) (Or.inr rfl) (fun j a b c d => ?_) ?_ (fun j a b c => ?_) (fun a b c d => ?_) (fun j c => ?_) (fun f' c d => ?_) (by omega)
    · unfold nArise
      simp (disch := omega) only [zu1_ne]
    · rw [zsF_eq, e3]
    · exact zsF_ne (Or.inr c)
    · simp (disch := omega) only [zsA_neF]
    · simp (disch := omega) only [zsA_nj]
    · unfold nArise
      rcases (show f' = 0 ∨ f' = 1 ∨ f' = 2 ∨ f' = 3 ∨ f' = 4 by omega) with e | e | e | e | e <;> subst e <;> simp (disch := omega) only [zsA_eqF, zu1_ne, zu1_eq] <;> (try (first | (rw [if_pos (by omega)]) | (rw [if_neg (by omega)])))
set_option maxRecDepth 20000 in
theorem s_X2_addLoss {T : zTt} {FR : zFR} {AR : zAR} {FI : zFI} {AI : zAI} {Post : zPost} {B : Nat} {N : Int → Int} {o s l : Int} (hB : bLay T FR B) (hK : bk FI AI B N) (hb : 0 ≤ N 4 ∧ N 2 ≤ 3 ∧ N 3 ≤ 30 ∧ N 4 < 10) (hp : ∀ (F1 : zFI) (A1 : zAI), bFr B FI F1 AI A1 → bk F1 A1 B (nLoss N o s l) → Post (zI (N 4)) T FR AR F1 A1) : zMet M_X2_addLoss [zR B, zI o, zI s, zI l] T FR AR FI AI Post := by
  refine zMet.of [some (zR B), some (zI o), some (zI s), some (zI l), none] rfl rfl rfl (fun G C => ?_)
  obtain ⟨k0, k1, k2, k3, k4, k5, k6, k7, k8⟩ := id hK
  refine zv_aload_n C dX2_addLoss_0 rfl rfl ?_
  refine zv_getI C dX2_addLoss_1 f_X2_37 hB.1 rfl ?_
  refine zv_iconst C dX2_addLoss_4 rfl ?_
  refine zv_imul C dX2_addLoss_5 ⟨by omega, by omega⟩ ?_
  refine zv_istore_4 C dX2_addLoss_6 rfl rfl ?_
  refine zv_aload_n C dX2_addLoss_8 rfl rfl ?_
  refine zv_getR C dX2_addLoss_9 f_X2_21 hB.1 rfl hB.2.2.2.2.2.2.2.2 ?_
  refine zv_iload C dX2_addLoss_12 rfl ?_
  refine zv_iconst C dX2_addLoss_14 rfl ?_
  refine zv_iadd C dX2_addLoss_15 ⟨by omega, by omega⟩ ?_
  refine zv_iload_n C dX2_addLoss_16 rfl ?_
  refine zv_iastore C dX2_addLoss_17 hB.2.2.2.2.1 ⟨by omega, by omega⟩ ?_
  refine zv_aload_n C dX2_addLoss_18 rfl rfl ?_
  refine zv_getR C dX2_addLoss_19 f_X2_21 hB.1 rfl hB.2.2.2.2.2.2.2.2 ?_
  refine zv_iload C dX2_addLoss_22 rfl ?_
  refine zv_iconst C dX2_addLoss_24 rfl ?_
  refine zv_iadd C dX2_addLoss_25 ⟨by omega, by omega⟩ ?_
  refine zv_iload_n C dX2_addLoss_26 rfl ?_
  refine zv_iastore C dX2_addLoss_27 hB.2.2.2.2.1 ⟨by omega, by omega⟩ ?_
  refine zv_aload_n C dX2_addLoss_28 rfl rfl ?_
  refine zv_getR C dX2_addLoss_29 f_X2_21 hB.1 rfl hB.2.2.2.2.2.2.2.2 ?_
  refine zv_iload C dX2_addLoss_32 rfl ?_
  refine zv_iconst C dX2_addLoss_34 rfl ?_
  refine zv_iadd C dX2_addLoss_35 ⟨by omega, by omega⟩ ?_
  refine zv_iload_n C dX2_addLoss_36 rfl ?_
  refine zv_iastore C dX2_addLoss_37 hB.2.2.2.2.1 ⟨by omega, by omega⟩ ?_
  refine zv_aload_n C dX2_addLoss_38 rfl rfl ?_
  refine zv_getR C dX2_addLoss_39 f_X2_21 hB.1 rfl hB.2.2.2.2.2.2.2.2 ?_
  refine zv_iload C dX2_addLoss_42 rfl ?_
  refine zv_iconst C dX2_addLoss_44 rfl ?_
  refine zv_iadd C dX2_addLoss_45 ⟨by omega, by omega⟩ ?_
  refine zv_iload_n C dX2_addLoss_46 rfl ?_
  refine zv_iastore C dX2_addLoss_47 hB.2.2.2.2.1 ⟨by omega, by omega⟩ ?_
  refine zv_aload_n C dX2_addLoss_48 rfl rfl ?_
  refine zv_dup C dX2_addLoss_49 rfl ?_
  refine zv_getI C dX2_addLoss_50 f_X2_37 hB.1 rfl ?_
  refine zv_iconst C dX2_addLoss_53 rfl ?_
  refine zv_iadd C dX2_addLoss_54 ⟨by omega, by omega⟩ ?_
  refine zv_putI C dX2_addLoss_55 f_X2_37 hB.1 rfl ?_
  refine zv_aload_n C dX2_addLoss_58 rfl rfl ?_
  refine zv_getI C dX2_addLoss_59 f_X2_37 hB.1 rfl ?_
  try simp (disch := omega) only [zsF_eq, zsF_ne]
  refine zv_iconst C dX2_addLoss_62 rfl ?_
  refine zv_isub C dX2_addLoss_63 ⟨by omega, by omega⟩ ?_
  refine zv_ireturn C dX2_addLoss_64 rfl rfl rfl rfl ?_
  rw [k4]
  refine zpost (show N 4 = N 4 + 1 - 1 by omega) (hp _ _ (bFr.setF ((((bFr.rfl.setA ⟨by omega, by omega⟩).setA ⟨by omega, by omega⟩).setA ⟨by omega, by omega⟩).setA ⟨by omega, by omega⟩)) ?_)
  have e3 : nLoss N o s l 4 = N 4 + 1 := by unfold nLoss; rw [zu1_eq]
  refine bk_loss (q := N 4) hK (by omega) (by omega) (by omega) (by omega) (Or.inr rfl) (fun j a b c d => ?_) ?_ (fun j a b => ?_) (fun a b c => ?_) (fun j c => ?_) (fun f' c d => ?_) (by omega)
  · unfold nLoss
    simp (disch := omega) only [zu1_ne]
  · rw [zsF_eq, e3]
  · exact zsF_ne (Or.inr (by omega))
  · simp (disch := omega) only [zsA_neF]
  · simp (disch := omega) only [zsA_nj]
  · unfold nLoss
    rcases (show f' = 0 ∨ f' = 1 ∨ f' = 2 ∨ f' = 3 by omega) with e | e | e | e <;> subst e <;> simp (disch := omega) only [zsA_eqF, zu1_ne, zu1_eq]
set_option maxRecDepth 20000 in
theorem s_X2_bringForward {T : zTt} {FR : zFR} {AR : zAR} {FI : zFI} {AI : zAI} {Post : zPost} {B : Nat} {N : Int → Int} {nI nL : Nat} {i s : Int} (hB : bLay T FR B) (hK : bk FI AI B N) (hW : mW N nI nL) (g0 : 0 ≤ i) (g1 : i < N 3) (hs : s = zOpen (mIt N) (N 0) i) (hp : ∀ A1 : zAI, bFr B FI FI AI A1 → bk FI A1 B (nSettle N i) → Post (zI 0) T FR AR FI A1) : zMet M_X2_bringForward [zR B, zI i, zI s] T FR AR FI AI Post := by
  refine zMet.of [some (zR B), some (zI i), some (zI s), none] rfl rfl rfl (fun G C => ?_)
  obtain ⟨k0, k1, k2, k3, k4, k5, k6, k7, k8⟩ := id hK
  obtain ⟨w0, w1, w2, w3, w4, w5, w6, w7, w8, w9⟩ := id hW
  refine zv_iload_n C dX2_bringForward_0 rfl ?_
  refine zv_iconst C dX2_bringForward_1 rfl ?_
  refine zv_imul C dX2_bringForward_2 ⟨by omega, by omega⟩ ?_
  refine zv_istore_3 C dX2_bringForward_3 rfl rfl ?_
  refine zv_aload_n C dX2_bringForward_4 rfl rfl ?_
  refine zv_getR C dX2_bringForward_5 f_X2_18 hB.1 rfl hB.2.2.2.2.2.2.2.1 ?_
  refine zv_iload_n C dX2_bringForward_8 rfl ?_
  refine zv_iconst C dX2_bringForward_9 rfl ?_
  refine zv_iadd C dX2_bringForward_10 ⟨by omega, by omega⟩ ?_
  refine zv_iload_n C dX2_bringForward_11 rfl ?_
  refine zv_iastore C dX2_bringForward_12 hB.2.2.2.1 ⟨by omega, by omega⟩ ?_
  refine zv_aload_n C dX2_bringForward_13 rfl rfl ?_
  refine zv_getR C dX2_bringForward_14 f_X2_18 hB.1 rfl hB.2.2.2.2.2.2.2.1 ?_
  refine zv_iload_n C dX2_bringForward_17 rfl ?_
  refine zv_iconst C dX2_bringForward_18 rfl ?_
  refine zv_iadd C dX2_bringForward_19 ⟨by omega, by omega⟩ ?_
  refine zv_aload_n C dX2_bringForward_20 rfl rfl ?_
  refine zv_getI C dX2_bringForward_21 f_X2_28 hB.1 rfl ?_
  rw [k0]
  refine zv_iconst C dX2_bringForward_24 rfl ?_
  refine zv_iadd C dX2_bringForward_25 ⟨by omega, by omega⟩ ?_
  refine zv_iastore C dX2_bringForward_26 hB.2.2.2.1 ⟨by omega, by omega⟩ ?_
  refine zv_aload_n C dX2_bringForward_27 rfl rfl ?_
  refine zv_getR C dX2_bringForward_28 f_X2_18 hB.1 rfl hB.2.2.2.2.2.2.2.1 ?_
  refine zv_iload_n C dX2_bringForward_31 rfl ?_
  refine zv_iconst C dX2_bringForward_32 rfl ?_
  refine zv_iadd C dX2_bringForward_33 ⟨by omega, by omega⟩ ?_
  refine zv_aload_n C dX2_bringForward_34 rfl rfl ?_
  refine zv_getI C dX2_bringForward_35 f_X2_28 hB.1 rfl ?_
  rw [k0]
  refine zv_iconst C dX2_bringForward_38 rfl ?_
  refine zv_iadd C dX2_bringForward_39 ⟨by omega, by omega⟩ ?_
  refine zv_iastore C dX2_bringForward_40 hB.2.2.2.1 ⟨by omega, by omega⟩ ?_
  refine zv_return C dX2_bringForward_41 rfl rfl rfl ?_
  refine hp _ (((bFr.rfl.setA ⟨by omega, by omega⟩).setA ⟨by omega, by omega⟩).setA ⟨by omega, by omega⟩) ?_
  have e3 : nSettle N i 3 = N 3 := by unfold nSettle; simp (disch := omega) only [zu1_ne]
  refine bk_item (q := i) hK (by omega) (by omega) (by omega) (by omega) (Or.inl e3) (fun j a b c d => ?_) ?_ (fun j a b c => rfl) (fun a b c d => ?_) (fun j c => ?_) (fun f' c d => ?_) (by omega)
  · unfold nSettle
    simp (disch := omega) only [zu1_ne]
  · rw [e3]; exact k3
  · simp (disch := omega) only [zsA_neF]
  · simp (disch := omega) only [zsA_nj]
  · unfold nSettle
    have z := k7 i f' g0 g1 c d
    rcases (show f' = 0 ∨ f' = 1 ∨ f' = 2 ∨ f' = 3 ∨ f' = 4 by omega) with e | e | e | e | e <;> subst e <;> simp (disch := omega) only [zsA_eqF, zu1_ne, zu1_eq] <;> first | exact z | exact hs
