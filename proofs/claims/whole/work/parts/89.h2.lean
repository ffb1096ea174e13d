set_option maxRecDepth 20000 in
theorem s_X3_init {T : zTt} {FR : zFR} {AR : zAR} {FI : zFI} {AI : zAI} {Post : zPost} {K : Nat} (hT : T K = (1, 2)) (h0 : (T (K + 1)).1 = 0) (h1 : (T (K + 2)).1 = 0) (h2 : (T (K + 3)).1 = 0) (hz : K + 3 < zb) (hp : ∀ (T1 : zTt) (FR1 : zFR) (AR1 : zAR) (FI1 : zFI) (AI1 : zAI), zGr K (K + 3) T T1 FR FR1 AR AR1 FI FI1 AI AI1 → (T1 K = (1, 2) ∧ T1 (K + 1) = (2, 7) ∧ T1 (K + 2) = (2, 40) ∧ T1 (K + 3) = (2, 40) ∧ FR1 K 0 = some (K + 1) ∧ FR1 K 1 = some (K + 2) ∧ FR1 K 2 = some (K + 3)) → (∀ j, FI1 K j = FI K j) → (∀ a i, K + 1 ≤ a → a ≤ K + 3 → AI1 a i = 0) → Post (zI 0) T1 FR1 AR1 FI1 AI1) : zMet M_X3_init [zR K] T FR AR FI AI Post := by
  refine zMet.of [some (zR K)] rfl rfl rfl (fun G C => ?_)
  refine zv_aload_n C dX3_init_0 rfl rfl ?_
  refine zv_objInit C dX3_init_1 l_X3_3 oi_im oi_cd (Nat.le_of_ble_eq_true rfl) (Nat.le_of_ble_eq_true rfl) ?_
  refine zv_aload_n C dX3_init_4 rfl rfl ?_
  refine zv_bipush C dX3_init_5 rfl ?_
  refine zv_newI (N := 7) C (K + 1) dX3_init_7 ac_int rfl (by decide) (by first | exact h0 | (simp (disch := omega) only [zsT_ne]; exact h0)) (by rw [Nat.blt_eq]; omega) ⟨Nat.le_of_ble_eq_true rfl, Nat.le_of_ble_eq_true rfl⟩ ?_
  refine zv_putPF C dX3_init_9 f_X3_11 (by first | exact hT | (simp (disch := omega) only [zsT_ne]; exact hT)) rfl rfl (fun h => by cases h; rfl) ?_
  refine zv_aload_n C dX3_init_12 rfl rfl ?_
  refine zv_bipush C dX3_init_13 rfl ?_
  refine zv_newI (N := 40) C (K + 2) dX3_init_15 ac_int rfl (by decide) (by first | exact h1 | (simp (disch := omega) only [zsT_ne]; exact h1)) (by rw [Nat.blt_eq]; omega) ⟨Nat.le_of_ble_eq_true rfl, Nat.le_of_ble_eq_true rfl⟩ ?_
  refine zv_putPF C dX3_init_17 f_X3_15 (by first | exact hT | (simp (disch := omega) only [zsT_ne]; exact hT)) rfl rfl (fun h => by cases h; rfl) ?_
  refine zv_aload_n C dX3_init_20 rfl rfl ?_
  refine zv_bipush C dX3_init_21 rfl ?_
  refine zv_newI (N := 40) C (K + 3) dX3_init_23 ac_int rfl (by decide) (by first | exact h2 | (simp (disch := omega) only [zsT_ne]; exact h2)) (by rw [Nat.blt_eq]; omega) ⟨Nat.le_of_ble_eq_true rfl, Nat.le_of_ble_eq_true rfl⟩ ?_
  refine zv_putPF C dX3_init_25 f_X3_18 (by first | exact hT | (simp (disch := omega) only [zsT_ne]; exact hT)) rfl rfl (fun h => by cases h; rfl) ?_
  refine zv_return C dX3_init_28 rfl rfl rfl ?_
  refine hp _ _ _ _ _ (fun h hh => ⟨?_, ?_, ?_, ?_, ?_⟩) ⟨?_, ?_, ?_, ?_, ?_, ?_, ?_⟩ ?_ ?_
  · simp (disch := omega) only [zsT_ne]
  · simp (disch := omega) only [zsR_neF, zzR_neF]
  · simp (disch := omega) only [zzQ_neF]
  · simp (disch := omega) only [zsF_neF, zzF_neF]
  · simp (disch := omega) only [zsA_neF, zzA_neF]
  · simp (disch := omega) only [zsT_ne]; exact hT
  · simp (disch := omega) only [zsT_ne, zsT_eq]
  · simp (disch := omega) only [zsT_ne, zsT_eq]
  · simp (disch := omega) only [zsT_ne, zsT_eq]
  · simp (disch := omega) only [zzR_neF, zsR_nj, zsR_eq]
  · simp (disch := omega) only [zzR_neF, zsR_nj, zsR_eq]
  · simp (disch := omega) only [zzR_neF, zsR_nj, zsR_eq]
  · intro j
    simp (disch := omega) only [zzF_neF]
  · intro a i c d
    rcases (show a = K + 1 ∨ a = K + 2 ∨ a = K + 3 by omega) with e | e | e <;> subst e <;> simp (disch := omega) only [zzA_neF, zzA_eq]
set_option maxRecDepth 20000 in
theorem s_X7_init {T : zTt} {FR : zFR} {AR : zAR} {FI : zFI} {AI : zAI} {Post : zPost}  (hT : T 1 = (1, 5)) (h0 : (T (2)).1 = 0) (hz : 2 < zb) (hp : ∀ (T1 : zTt) (FR1 : zFR) (AR1 : zAR) (FI1 : zFI) (AI1 : zAI), zGr 1 (2) T T1 FR FR1 AR AR1 FI FI1 AI AI1 → (T1 1 = (1, 5) ∧ T1 (2) = (3, 640) ∧ FR1 1 0 = some (2)) → (∀ j, FI1 1 j = FI 1 j) → (∀ a i, 2 ≤ a → a ≤ 2 → AI1 a i = 0) → Post (zI 0) T1 FR1 AR1 FI1 AI1) : zMet M_X7_init [zR 1] T FR AR FI AI Post := by
  refine zMet.of [some (zR 1)] rfl rfl rfl (fun G C => ?_)
  refine zv_aload_n C dX7_init_0 rfl rfl ?_
  refine zv_objInit C dX7_init_1 l_X7_3 oi_im oi_cd (Nat.le_of_ble_eq_true rfl) (Nat.le_of_ble_eq_true rfl) ?_
  refine zv_aload_n C dX7_init_4 rfl rfl ?_
  refine zv_sipush C dX7_init_5 rfl ?_
  refine zv_newB (N := 640) C (2) dX7_init_8 ac_byte rfl (by decide) (by first | exact h0 | (simp (disch := omega) only [zsT_ne]; exact h0)) (by rw [Nat.blt_eq]; omega) ⟨Nat.le_of_ble_eq_true rfl, Nat.le_of_ble_eq_true rfl⟩ ?_
  refine zv_putPF C dX7_init_10 f_X7_11 (by first | exact hT | (simp (disch := omega) only [zsT_ne]; exact hT)) rfl rfl (fun h => by cases h; rfl) ?_
  refine zv_return C dX7_init_13 rfl rfl rfl ?_
  refine hp _ _ _ _ _ (fun h hh => ⟨?_, ?_, ?_, ?_, ?_⟩) ⟨?_, ?_, ?_⟩ ?_ ?_
  · simp (disch := omega) only [zsT_ne]
  · simp (disch := omega) only [zsR_neF, zzR_neF]
  · simp (disch := omega) only [zzQ_neF]
  · simp (disch := omega) only [zsF_neF, zzF_neF]
  · simp (disch := omega) only [zsA_neF, zzA_neF]
  · simp (disch := omega) only [zsT_ne]; exact hT
  · simp (disch := omega) only [zsT_ne, zsT_eq]
  · simp (disch := omega) only [zzR_neF, zsR_nj, zsR_eq]
  · intro j
    simp (disch := omega) only [zzF_neF]
  · intro a i c d
    rcases (show a = 2 by omega) with e <;> subst e <;> simp (disch := omega) only [zzA_neF, zzA_eq]
set_option maxRecDepth 20000 in
theorem s_X4_init {T : zTt} {FR : zFR} {AR : zAR} {FI : zFI} {AI : zAI} {Post : zPost}  (hT : T 5 = (1, 3)) (h0 : (T (6)).1 = 0) (h1 : (T (7)).1 = 0) (h2 : (T (8)).1 = 0) (h3 : (T (9)).1 = 0) (h4 : (T (10)).1 = 0) (h5 : (T (11)).1 = 0) (h6 : (T (12)).1 = 0) (h7 : (T (13)).1 = 0) (hz : 13 < zb) (hp : ∀ (T1 : zTt) (FR1 : zFR) (AR1 : zAR) (FI1 : zFI) (AI1 : zAI), zGr 5 (13) T T1 FR FR1 AR AR1 FI FI1 AI AI1 → (T1 5 = (1, 3) ∧ T1 (6) = (2, 40) ∧ T1 (7) = (2, 40) ∧ T1 (8) = (2, 40) ∧ T1 (9) = (2, 40) ∧ T1 (10) = (2, 40) ∧ T1 (11) = (2, 40) ∧ T1 (12) = (2, 40) ∧ T1 (13) = (2, 60) ∧ FR1 5 0 = some (6) ∧ FR1 5 1 = some (7) ∧ FR1 5 2 = some (8) ∧ FR1 5 3 = some (9) ∧ FR1 5 4 = some (10) ∧ FR1 5 5 = some (11) ∧ FR1 5 6 = some (12) ∧ FR1 5 7 = some (13)) → (∀ j, FI1 5 j = FI 5 j) → (∀ a i, 6 ≤ a → a ≤ 13 → AI1 a i = 0) → Post (zI 0) T1 FR1 AR1 FI1 AI1) : zMet M_X4_init [zR 5] T FR AR FI AI Post := by
  refine zMet.of [some (zR 5)] rfl rfl rfl (fun G C => ?_)
  refine zv_aload_n C dX4_init_0 rfl rfl ?_
  refine zv_objInit C dX4_init_1 l_X4_3 oi_im oi_cd (Nat.le_of_ble_eq_true rfl) (Nat.le_of_ble_eq_true rfl) ?_
  refine zv_aload_n C dX4_init_4 rfl rfl ?_
  refine zv_bipush C dX4_init_5 rfl ?_
  refine zv_newI (N := 40) C (6) dX4_init_7 ac_int rfl (by decide) (by first | exact h0 | (simp (disch := omega) only [zsT_ne]; exact h0)) (by rw [Nat.blt_eq]; omega) ⟨Nat.le_of_ble_eq_true rfl, Nat.le_of_ble_eq_true rfl⟩ ?_
  refine zv_putPF C dX4_init_9 f_X4_9 (by first | exact hT | (simp (disch := omega) only [zsT_ne]; exact hT)) rfl rfl (fun h => by cases h; rfl) ?_
  refine zv_aload_n C dX4_init_12 rfl rfl ?_
  refine zv_bipush C dX4_init_13 rfl ?_
  refine zv_newI (N := 40) C (7) dX4_init_15 ac_int rfl (by decide) (by first | exact h1 | (simp (disch := omega) only [zsT_ne]; exact h1)) (by rw [Nat.blt_eq]; omega) ⟨Nat.le_of_ble_eq_true rfl, Nat.le_of_ble_eq_true rfl⟩ ?_
  refine zv_putPF C dX4_init_17 f_X4_15 (by first | exact hT | (simp (disch := omega) only [zsT_ne]; exact hT)) rfl rfl (fun h => by cases h; rfl) ?_
  refine zv_aload_n C dX4_init_20 rfl rfl ?_
  refine zv_bipush C dX4_init_21 rfl ?_
  refine zv_newI (N := 40) C (8) dX4_init_23 ac_int rfl (by decide) (by first | exact h2 | (simp (disch := omega) only [zsT_ne]; exact h2)) (by rw [Nat.blt_eq]; omega) ⟨Nat.le_of_ble_eq_true rfl, Nat.le_of_ble_eq_true rfl⟩ ?_
  refine zv_putPF C dX4_init_25 f_X4_18 (by first | exact hT | (simp (disch := omega) only [zsT_ne]; exact hT)) rfl rfl (fun h => by cases h; rfl) ?_
  refine zv_aload_n C dX4_init_28 rfl rfl ?_
  refine zv_bipush C dX4_init_29 rfl ?_
  refine zv_newI (N := 40) C (9) dX4_init_31 ac_int rfl (by decide) (by first | exact h3 | (simp (disch := omega) only [zsT_ne]; exact h3)) (by rw [Nat.blt_eq]; omega) ⟨Nat.le_of_ble_eq_true rfl, Nat.le_of_ble_eq_true rfl⟩ ?_
  refine zv_putPF C dX4_init_33 f_X4_21 (by first | exact hT | (simp (disch := omega) only [zsT_ne]; exact hT)) rfl rfl (fun h => by cases h; rfl) ?_
  refine zv_aload_n C dX4_init_36 rfl rfl ?_
  refine zv_bipush C dX4_init_37 rfl ?_
  refine zv_newI (N := 40) C (10) dX4_init_39 ac_int rfl (by decide) (by first | exact h4 | (simp (disch := omega) only [zsT_ne]; exact h4)) (by rw [Nat.blt_eq]; omega) ⟨Nat.le_of_ble_eq_true rfl, Nat.le_of_ble_eq_true rfl⟩ ?_
  refine zv_putPF C dX4_init_41 f_X4_24 (by first | exact hT | (simp (disch := omega) only [zsT_ne]; exact hT)) rfl rfl (fun h => by cases h; rfl) ?_
  refine zv_aload_n C dX4_init_44 rfl rfl ?_
  refine zv_bipush C dX4_init_45 rfl ?_
  refine zv_newI (N := 40) C (11) dX4_init_47 ac_int rfl (by decide) (by first | exact h5 | (simp (disch := omega) only [zsT_ne]; exact h5)) (by rw [Nat.blt_eq]; omega) ⟨Nat.le_of_ble_eq_true rfl, Nat.le_of_ble_eq_true rfl⟩ ?_
  refine zv_putPF C dX4_init_49 f_X4_27 (by first | exact hT | (simp (disch := omega) only [zsT_ne]; exact hT)) rfl rfl (fun h => by cases h; rfl) ?_
  refine zv_aload_n C dX4_init_52 rfl rfl ?_
  refine zv_bipush C dX4_init_53 rfl ?_
  refine zv_newI (N := 40) C (12) dX4_init_55 ac_int rfl (by decide) (by first | exact h6 | (simp (disch := omega) only [zsT_ne]; exact h6)) (by rw [Nat.blt_eq]; omega) ⟨Nat.le_of_ble_eq_true rfl, Nat.le_of_ble_eq_true rfl⟩ ?_
  refine zv_putPF C dX4_init_57 f_X4_30 (by first | exact hT | (simp (disch := omega) only [zsT_ne]; exact hT)) rfl rfl (fun h => by cases h; rfl) ?_
  refine zv_aload_n C dX4_init_60 rfl rfl ?_
  refine zv_bipush C dX4_init_61 rfl ?_
  refine zv_newI (N := 60) C (13) dX4_init_63 ac_int rfl (by decide) (by first | exact h7 | (simp (disch := omega) only [zsT_ne]; exact h7)) (by rw [Nat.blt_eq]; omega) ⟨Nat.le_of_ble_eq_true rfl, Nat.le_of_ble_eq_true rfl⟩ ?_
  refine zv_putPF C dX4_init_65 f_X4_33 (by first | exact hT | (simp (disch := omega) only [zsT_ne]; exact hT)) rfl rfl (fun h => by cases h; rfl) ?_
  refine zv_return C dX4_init_68 rfl rfl rfl ?_
  refine hp _ _ _ _ _ (fun h hh => ⟨?_, ?_, ?_, ?_, ?_⟩) ⟨?_, ?_, ?_, ?_, ?_, ?_, ?_, ?_, ?_, ?_, ?_, ?_, ?_, ?_, ?_, ?_, ?_⟩ ?_ ?_
  · simp (disch := omega) only [zsT_ne]
  · simp (disch := omega) only [zsR_neF, zzR_neF]
  · simp (disch := omega) only [zzQ_neF]
  · simp (disch := omega) only [zsF_neF, zzF_neF]
  · simp (disch := omega) only [zsA_neF, zzA_neF]
  · simp (disch := omega) only [zsT_ne]; exact hT
  · simp (disch := omega) only [zsT_ne, zsT_eq]
  · simp (disch := omega) only [zsT_ne, zsT_eq]
  · simp (disch := omega) only [zsT_ne, zsT_eq]
  · simp (disch := omega) only [zsT_ne, zsT_eq]
  · simp (disch := omega) only [zsT_ne, zsT_eq]
  · simp (disch := omega) only [zsT_ne, zsT_eq]
  · simp (disch := omega) only [zsT_ne, zsT_eq]
  · simp (disch := omega) only [zsT_ne, zsT_eq]
  · simp (disch := omega) only [zzR_neF, zsR_nj, zsR_eq]
  · simp (disch := omega) only [zzR_neF, zsR_nj, zsR_eq]
  · simp (disch := omega) only [zzR_neF, zsR_nj, zsR_eq]
  · simp (disch := omega) only [zzR_neF, zsR_nj, zsR_eq]
  · simp (disch := omega) only [zzR_neF, zsR_nj, zsR_eq]
  · simp (disch := omega) only [zzR_neF, zsR_nj, zsR_eq]
  · simp (disch := omega) only [zzR_neF, zsR_nj, zsR_eq]
  · simp (disch := omega) only [zzR_neF, zsR_nj, zsR_eq]
  · intro j
    simp (disch := omega) only [zzF_neF]
  · intro a i c d
    rcases (show a = 6 ∨ a = 7 ∨ a = 8 ∨ a = 9 ∨ a = 10 ∨ a = 11 ∨ a = 12 ∨ a = 13 by omega) with e | e | e | e | e | e | e | e <;> subst e <;> simp (disch := omega) only [zzA_neF, zzA_eq]
