set_option maxRecDepth 20000 in
theorem s_X9_init {T : zTt} {FR : zFR} {AR : zAR} {FI : zFI} {AI : zAI} {Post : zPost}  (hT : T 100 = (1, 7)) (hf : ∀ k, 101 ≤ k → k ≤ 124 → (T k).1 = 0) (hz : 124 < zb) (hp : ∀ (T1 : zTt) (FR1 : zFR) (AR1 : zAR) (FI1 : zFI) (AI1 : zAI), zGr 100 124 T T1 FR FR1 AR AR1 FI FI1 AI AI1 → mLay T1 FR1 → (∀ j, FI1 100 j = FI 100 j) → (∀ (a : Nat) (i : Int), a = 101 ∨ a = 111 ∨ a = 112 ∨ a = 113 ∨ a = 116 ∨ a = 117 ∨ a = 118 ∨ a = 119 ∨ a = 120 ∨ a = 121 ∨ a = 122 ∨ a = 123 ∨ a = 124 → AI1 a i = if a = 111 ∧ i = 2 then 1 else 0) → Post (zI 0) T1 FR1 AR1 FI1 AI1) : zMet M_X9_init [zR 100] T FR AR FI AI Post := by
  refine zMet.of [some (zR 100)] rfl rfl rfl (fun G C => ?_)
  have hz101 : Nat.blt 101 zb = true := by rw [Nat.blt_eq]; omega
  have hz111 : Nat.blt 111 zb = true := by rw [Nat.blt_eq]; omega
  have hz112 : Nat.blt 112 zb = true := by rw [Nat.blt_eq]; omega
  have hz113 : Nat.blt 113 zb = true := by rw [Nat.blt_eq]; omega
  have hz116 : Nat.blt 116 zb = true := by rw [Nat.blt_eq]; omega
  have hz117 : Nat.blt 117 zb = true := by rw [Nat.blt_eq]; omega
  have hz118 : Nat.blt 118 zb = true := by rw [Nat.blt_eq]; omega
  have hz119 : Nat.blt 119 zb = true := by rw [Nat.blt_eq]; omega
  have hz120 : Nat.blt 120 zb = true := by rw [Nat.blt_eq]; omega
  have hz121 : Nat.blt 121 zb = true := by rw [Nat.blt_eq]; omega
  have hz122 : Nat.blt 122 zb = true := by rw [Nat.blt_eq]; omega
  have hz123 : Nat.blt 123 zb = true := by rw [Nat.blt_eq]; omega
  have hz124 : Nat.blt 124 zb = true := by rw [Nat.blt_eq]; omega
  refine zv_aload_n C dX9_init_0 rfl rfl ?_
  refine zv_objInit C dX9_init_1 l_X9_68 oi_im oi_cd (Nat.le_of_ble_eq_true rfl) (Nat.le_of_ble_eq_true rfl) ?_
  refine zv_aload_n C dX9_init_4 rfl rfl ?_
  refine zv_sipush C dX9_init_5 rfl ?_
  refine zv_newI (N := 640) C (101) dX9_init_8 ac_int rfl (by decide) (by first | exact hf 101 (by decide) (by decide) | (simp (disch := omega) only [zsT_ne]; exact hf 101 (by decide) (by decide))) hz101 ⟨Nat.le_of_ble_eq_true rfl, Nat.le_of_ble_eq_true rfl⟩ ?_
  refine zv_putPF C dX9_init_10 f_X9_7 (by first | exact hT | (simp (disch := omega) only [zsT_ne]; exact hT)) rfl rfl (fun h => by cases h; rfl) ?_
  refine zv_aload_n C dX9_init_13 rfl rfl ?_
  refine zv_sipush C dX9_init_14 rfl ?_
  refine zv_newI (N := 1395) C (111) dX9_init_17 ac_int rfl (by decide) (by first | exact hf 111 (by decide) (by decide) | (simp (disch := omega) only [zsT_ne]; exact hf 111 (by decide) (by decide))) hz111 ⟨Nat.le_of_ble_eq_true rfl, Nat.le_of_ble_eq_true rfl⟩ ?_
  refine zv_putPF C dX9_init_19 f_X9_74 (by first | exact hT | (simp (disch := omega) only [zsT_ne]; exact hT)) rfl rfl (fun h => by cases h; rfl) ?_
  refine zv_aload_n C dX9_init_22 rfl rfl ?_
  refine zv_sipush C dX9_init_23 rfl ?_
  refine zv_newI (N := 1395) C (112) dX9_init_26 ac_int rfl (by decide) (by first | exact hf 112 (by decide) (by decide) | (simp (disch := omega) only [zsT_ne]; exact hf 112 (by decide) (by decide))) hz112 ⟨Nat.le_of_ble_eq_true rfl, Nat.le_of_ble_eq_true rfl⟩ ?_
  refine zv_putPF C dX9_init_28 f_X9_77 (by first | exact hT | (simp (disch := omega) only [zsT_ne]; exact hT)) rfl rfl (fun h => by cases h; rfl) ?_
  refine zv_aload_n C dX9_init_31 rfl rfl ?_
  refine zv_sipush C dX9_init_32 rfl ?_
  refine zv_newI (N := 13950) C (113) dX9_init_35 ac_int rfl (by decide) (by first | exact hf 113 (by decide) (by decide) | (simp (disch := omega) only [zsT_ne]; exact hf 113 (by decide) (by decide))) hz113 ⟨Nat.le_of_ble_eq_true rfl, Nat.le_of_ble_eq_true rfl⟩ ?_
  refine zv_putPF C dX9_init_37 f_X9_80 (by first | exact hT | (simp (disch := omega) only [zsT_ne]; exact hT)) rfl rfl (fun h => by cases h; rfl) ?_
  refine zv_aload_n C dX9_init_40 rfl rfl ?_
  refine zv_bipush C dX9_init_41 rfl ?_
  refine zv_newI (N := 50) C (116) dX9_init_43 ac_int rfl (by decide) (by first | exact hf 116 (by decide) (by decide) | (simp (disch := omega) only [zsT_ne]; exact hf 116 (by decide) (by decide))) hz116 ⟨Nat.le_of_ble_eq_true rfl, Nat.le_of_ble_eq_true rfl⟩ ?_
  refine zv_putPF C dX9_init_45 f_X9_83 (by first | exact hT | (simp (disch := omega) only [zsT_ne]; exact hT)) rfl rfl (fun h => by cases h; rfl) ?_
  refine zv_aload_n C dX9_init_48 rfl rfl ?_
  refine zv_bipush C dX9_init_49 rfl ?_
  refine zv_newI (N := 50) C (117) dX9_init_51 ac_int rfl (by decide) (by first | exact hf 117 (by decide) (by decide) | (simp (disch := omega) only [zsT_ne]; exact hf 117 (by decide) (by decide))) hz117 ⟨Nat.le_of_ble_eq_true rfl, Nat.le_of_ble_eq_true rfl⟩ ?_
  refine zv_putPF C dX9_init_53 f_X9_86 (by first | exact hT | (simp (disch := omega) only [zsT_ne]; exact hT)) rfl rfl (fun h => by cases h; rfl) ?_
  refine zv_aload_n C dX9_init_56 rfl rfl ?_
  refine zv_bipush C dX9_init_57 rfl ?_
  refine zv_newI (N := 40) C (118) dX9_init_59 ac_int rfl (by decide) (by first | exact hf 118 (by decide) (by decide) | (simp (disch := omega) only [zsT_ne]; exact hf 118 (by decide) (by decide))) hz118 ⟨Nat.le_of_ble_eq_true rfl, Nat.le_of_ble_eq_true rfl⟩ ?_
  refine zv_putPF C dX9_init_61 f_X9_89 (by first | exact hT | (simp (disch := omega) only [zsT_ne]; exact hT)) rfl rfl (fun h => by cases h; rfl) ?_
  refine zv_aload_n C dX9_init_64 rfl rfl ?_
  refine zv_bipush C dX9_init_65 rfl ?_
  refine zv_newI (N := 40) C (119) dX9_init_67 ac_int rfl (by decide) (by first | exact hf 119 (by decide) (by decide) | (simp (disch := omega) only [zsT_ne]; exact hf 119 (by decide) (by decide))) hz119 ⟨Nat.le_of_ble_eq_true rfl, Nat.le_of_ble_eq_true rfl⟩ ?_
  refine zv_putPF C dX9_init_69 f_X9_92 (by first | exact hT | (simp (disch := omega) only [zsT_ne]; exact hT)) rfl rfl (fun h => by cases h; rfl) ?_
  refine zv_aload_n C dX9_init_72 rfl rfl ?_
  refine zv_bipush C dX9_init_73 rfl ?_
  refine zv_newI (N := 40) C (120) dX9_init_75 ac_int rfl (by decide) (by first | exact hf 120 (by decide) (by decide) | (simp (disch := omega) only [zsT_ne]; exact hf 120 (by decide) (by decide))) hz120 ⟨Nat.le_of_ble_eq_true rfl, Nat.le_of_ble_eq_true rfl⟩ ?_
  refine zv_putPF C dX9_init_77 f_X9_95 (by first | exact hT | (simp (disch := omega) only [zsT_ne]; exact hT)) rfl rfl (fun h => by cases h; rfl) ?_
  refine zv_aload_n C dX9_init_80 rfl rfl ?_
  refine zv_bipush C dX9_init_81 rfl ?_
  refine zv_newI (N := 40) C (121) dX9_init_83 ac_int rfl (by decide) (by first | exact hf 121 (by decide) (by decide) | (simp (disch := omega) only [zsT_ne]; exact hf 121 (by decide) (by decide))) hz121 ⟨Nat.le_of_ble_eq_true rfl, Nat.le_of_ble_eq_true rfl⟩ ?_
  refine zv_putPF C dX9_init_85 f_X9_98 (by first | exact hT | (simp (disch := omega) only [zsT_ne]; exact hT)) rfl rfl (fun h => by cases h; rfl) ?_
  refine zv_aload_n C dX9_init_88 rfl rfl ?_
  refine zv_bipush C dX9_init_89 rfl ?_
  refine zv_newI (N := 40) C (122) dX9_init_91 ac_int rfl (by decide) (by first | exact hf 122 (by decide) (by decide) | (simp (disch := omega) only [zsT_ne]; exact hf 122 (by decide) (by decide))) hz122 ⟨Nat.le_of_ble_eq_true rfl, Nat.le_of_ble_eq_true rfl⟩ ?_
  refine zv_putPF C dX9_init_93 f_X9_101 (by first | exact hT | (simp (disch := omega) only [zsT_ne]; exact hT)) rfl rfl (fun h => by cases h; rfl) ?_
  refine zv_aload_n C dX9_init_96 rfl rfl ?_
  refine zv_bipush C dX9_init_97 rfl ?_
  refine zv_newI (N := 40) C (123) dX9_init_99 ac_int rfl (by decide) (by first | exact hf 123 (by decide) (by decide) | (simp (disch := omega) only [zsT_ne]; exact hf 123 (by decide) (by decide))) hz123 ⟨Nat.le_of_ble_eq_true rfl, Nat.le_of_ble_eq_true rfl⟩ ?_
  refine zv_putPF C dX9_init_101 f_X9_104 (by first | exact hT | (simp (disch := omega) only [zsT_ne]; exact hT)) rfl rfl (fun h => by cases h; rfl) ?_
  refine zv_aload_n C dX9_init_104 rfl rfl ?_
  refine zv_bipush C dX9_init_105 rfl ?_
  refine zv_newI (N := 40) C (124) dX9_init_107 ac_int rfl (by decide) (by first | exact hf 124 (by decide) (by decide) | (simp (disch := omega) only [zsT_ne]; exact hf 124 (by decide) (by decide))) hz124 ⟨Nat.le_of_ble_eq_true rfl, Nat.le_of_ble_eq_true rfl⟩ ?_
  refine zv_putPF C dX9_init_109 f_X9_107 (by first | exact hT | (simp (disch := omega) only [zsT_ne]; exact hT)) rfl rfl (fun h => by cases h; rfl) ?_
  refine zv_aload_n C dX9_init_112 rfl rfl ?_
  refine zv_getR C dX9_init_113 f_X9_74 (by first | exact hT | (simp (disch := omega) only [zsT_ne]; exact hT)) rfl (show _ = some 111 from by simp (disch := omega) only [zzR_neF, zsR_nj, zsR_eq]) ?_
  refine zv_iconst C dX9_init_116 rfl ?_
  refine zv_iconst C dX9_init_117 rfl ?_
  refine zv_iastore C dX9_init_118 (show _ = (2, 1395) from by simp (disch := omega) only [zsT_ne, zsT_eq]) ⟨by omega, by omega⟩ ?_
  refine zv_return C dX9_init_119 rfl rfl rfl ?_
  refine hp _ _ _ _ _ (fun h hh => ⟨?_, ?_, ?_, ?_, ?_⟩) ⟨?_, ?_, ?_, ?_, ?_, ?_, ?_, ?_, ?_, ?_, ?_, ?_, ?_, ?_, ?_, ?_, ?_, ?_, ?_, ?_, ?_, ?_, ?_, ?_, ?_, ?_, ?_⟩ ?_ ?_
  · simp (disch := omega) only [zsT_ne]
  · simp (disch := omega) only [zsR_neF, zzR_neF]
  · simp (disch := omega) only [zzQ_neF]
  · simp (disch := omega) only [zsF_neF, zzF_neF]
  · simp (disch := omega) only [zsA_neF, zzA_neF]
  · simp (disch := omega) only [zsT_ne]; exact hT
  · simp (disch := omega) only [zsT_ne, zsT_eq]
  · simp (disch := omega) only [zsT_ne, zsT_eq]
  · simp (disch := omega) only [zsT_ne, zsT_eq]
  · simp (disch := omega) only [zsT_ne, zsT_eq]
  · simp (disch := omega) only [zsT_ne, zsT_eq]
  · simp (disch := omega) only [zsT_ne, zsT_eq]
  · simp (disch := omega) only [zsT_ne, zsT_eq]
  · simp (disch := omega) only [zsT_ne, zsT_eq]
  · simp (disch := omega) only [zsT_ne, zsT_eq]
  · simp (disch := omega) only [zsT_ne, zsT_eq]
  · simp (disch := omega) only [zsT_ne, zsT_eq]
  · simp (disch := omega) only [zsT_ne, zsT_eq]
  · simp (disch := omega) only [zsT_ne, zsT_eq]
  · simp (disch := omega) only [zzR_neF, zsR_nj, zsR_eq]
  · simp (disch := omega) only [zzR_neF, zsR_nj, zsR_eq]
  · simp (disch := omega) only [zzR_neF, zsR_nj, zsR_eq]
  · simp (disch := omega) only [zzR_neF, zsR_nj, zsR_eq]
  · simp (disch := omega) only [zzR_neF, zsR_nj, zsR_eq]
  · simp (disch := omega) only [zzR_neF, zsR_nj, zsR_eq]
  · simp (disch := omega) only [zzR_neF, zsR_nj, zsR_eq]
  · simp (disch := omega) only [zzR_neF, zsR_nj, zsR_eq]
  · simp (disch := omega) only [zzR_neF, zsR_nj, zsR_eq]
  · simp (disch := omega) only [zzR_neF, zsR_nj, zsR_eq]
  · simp (disch := omega) only [zzR_neF, zsR_nj, zsR_eq]
  · simp (disch := omega) only [zzR_neF, zsR_nj, zsR_eq]
  · simp (disch := omega) only [zzR_neF, zsR_nj, zsR_eq]
  · intro j
    simp (disch := omega) only [zzF_neF]
  · intro a i c
    rcases c with e | e | e | e | e | e | e | e | e | e | e | e | e <;> subst e
    · rw [if_neg (fun z => absurd z.1 (by decide)), zsA_ne (by decide)]
      simp (disch := omega) only [zzA_neF, zzA_eq]
    · by_cases e2 : i = 2
      · rw [e2, if_pos ⟨rfl, rfl⟩, zsA_eq]
      · rw [if_neg (fun z => e2 z.2), zsA_nj e2]
        simp (disch := omega) only [zzA_neF, zzA_eq]
    · rw [if_neg (fun z => absurd z.1 (by decide)), zsA_ne (by decide)]
      simp (disch := omega) only [zzA_neF, zzA_eq]
    · rw [if_neg (fun z => absurd z.1 (by decide)), zsA_ne (by decide)]
      simp (disch := omega) only [zzA_neF, zzA_eq]
    · rw [if_neg (fun z => absurd z.1 (by decide)), zsA_ne (by decide)]
      simp (disch := omega) only [zzA_neF, zzA_eq]
    · rw [if_neg (fun z => absurd z.1 (by decide)), zsA_ne (by decide)]
      simp (disch := omega) only [zzA_neF, zzA_eq]
    · rw [if_neg (fun z => absurd z.1 (by decide)), zsA_ne (by decide)]
      simp (disch := omega) only [zzA_neF, zzA_eq]
    · rw [if_neg (fun z => absurd z.1 (by decide)), zsA_ne (by decide)]
      simp (disch := omega) only [zzA_neF, zzA_eq]
    · rw [if_neg (fun z => absurd z.1 (by decide)), zsA_ne (by decide)]
      simp (disch := omega) only [zzA_neF, zzA_eq]
    · rw [if_neg (fun z => absurd z.1 (by decide)), zsA_ne (by decide)]
      simp (disch := omega) only [zzA_neF, zzA_eq]
    · rw [if_neg (fun z => absurd z.1 (by decide)), zsA_ne (by decide)]
      simp (disch := omega) only [zzA_neF, zzA_eq]
    · rw [if_neg (fun z => absurd z.1 (by decide)), zsA_ne (by decide)]
      simp (disch := omega) only [zzA_neF, zzA_eq]
    · rw [if_neg (fun z => absurd z.1 (by decide)), zsA_ne (by decide)]
      simp (disch := omega) only [zzA_neF, zzA_eq]
