set_option maxRecDepth 20000 in
theorem s_X2_init {T : zTt} {FR : zFR} {AR : zAR} {FI : zFI} {AI : zAI} {Post : zPost} {B : Nat} (hT : T B = (1, 1)) (h1 : (T (B + 1)).1 = 0) (h2 : (T (B + 2)).1 = 0) (h3 : (T (B + 3)).1 = 0) (h4 : (T (B + 4)).1 = 0) (hz : B + 4 < zb) (hp : ∀ (T1 : zTt) (FR1 : zFR) (AR1 : zAR) (FI1 : zFI) (AI1 : zAI), zGr B (B + 4) T T1 FR FR1 AR AR1 FI FI1 AI AI1 → bLay T1 FR1 B → (∀ j, j ≠ 6 → FI1 B j = FI B j) → (FI1 B 6 = 1 ∧ ∀ a i, B + 1 ≤ a → a ≤ B + 4 → AI1 a i = 0) → Post (zI 0) T1 FR1 AR1 FI1 AI1) : zMet M_X2_init [zR B] T FR AR FI AI Post := by
  refine zMet.of [some (zR B)] rfl rfl rfl (fun G C => ?_)
  refine zv_aload_n C dX2_init_0 rfl rfl ?_
  refine zv_objInit C dX2_init_1 l_X2_3 oi_im oi_cd (Nat.le_of_ble_eq_true rfl) (Nat.le_of_ble_eq_true rfl) ?_
  refine zv_aload_n C dX2_init_4 rfl rfl ?_
  refine zv_bipush C dX2_init_5 rfl ?_
  refine zv_newI (N := 120) C (B + 1) dX2_init_7 ac_int rfl (by decide) (by first | exact h1 | (simp (disch := omega) only [zsT_ne]; exact h1)) (by rw [Nat.blt_eq]; omega) ⟨Nat.le_of_ble_eq_true rfl, Nat.le_of_ble_eq_true rfl⟩ ?_
  refine zv_putPF C dX2_init_9 f_X2_9 (by first | exact hT | (simp (disch := omega) only [zsT_ne]; exact hT)) rfl rfl (fun h => by cases h; rfl) ?_
  refine zv_aload_n C dX2_init_12 rfl rfl ?_
  refine zv_bipush C dX2_init_13 rfl ?_
  refine zv_newI (N := 120) C (B + 2) dX2_init_15 ac_int rfl (by decide) (by first | exact h2 | (simp (disch := omega) only [zsT_ne]; exact h2)) (by rw [Nat.blt_eq]; omega) ⟨Nat.le_of_ble_eq_true rfl, Nat.le_of_ble_eq_true rfl⟩ ?_
  refine zv_putPF C dX2_init_17 f_X2_15 (by first | exact hT | (simp (disch := omega) only [zsT_ne]; exact hT)) rfl rfl (fun h => by cases h; rfl) ?_
  refine zv_aload_n C dX2_init_20 rfl rfl ?_
  refine zv_sipush C dX2_init_21 rfl ?_
  refine zv_newI (N := 150) C (B + 3) dX2_init_24 ac_int rfl (by decide) (by first | exact h3 | (simp (disch := omega) only [zsT_ne]; exact h3)) (by rw [Nat.blt_eq]; omega) ⟨Nat.le_of_ble_eq_true rfl, Nat.le_of_ble_eq_true rfl⟩ ?_
  refine zv_putPF C dX2_init_26 f_X2_18 (by first | exact hT | (simp (disch := omega) only [zsT_ne]; exact hT)) rfl rfl (fun h => by cases h; rfl) ?_
  refine zv_aload_n C dX2_init_29 rfl rfl ?_
  refine zv_bipush C dX2_init_30 rfl ?_
  refine zv_newI (N := 40) C (B + 4) dX2_init_32 ac_int rfl (by decide) (by first | exact h4 | (simp (disch := omega) only [zsT_ne]; exact h4)) (by rw [Nat.blt_eq]; omega) ⟨Nat.le_of_ble_eq_true rfl, Nat.le_of_ble_eq_true rfl⟩ ?_
  refine zv_putPF C dX2_init_34 f_X2_21 (by first | exact hT | (simp (disch := omega) only [zsT_ne]; exact hT)) rfl rfl (fun h => by cases h; rfl) ?_
  refine zv_aload_n C dX2_init_37 rfl rfl ?_
  refine zv_iconst C dX2_init_38 rfl ?_
  refine zv_putI C dX2_init_39 f_X2_24 (by first | exact hT | (simp (disch := omega) only [zsT_ne]; exact hT)) rfl ?_
  refine zv_return C dX2_init_42 rfl rfl rfl ?_
  refine hp _ _ _ _ _ (fun h hh => ⟨?_, ?_, ?_, ?_, ?_⟩) ?_ ?_ ?_
  · simp (disch := omega) only [zsT_ne]
  · simp (disch := omega) only [zsR_neF, zzR_neF]
  · simp (disch := omega) only [zzQ_neF]
  · simp (disch := omega) only [zsF_neF, zzF_neF]
  · simp (disch := omega) only [zzA_neF]
  · refine ⟨?_, ?_, ?_, ?_, ?_, ?_, ?_, ?_, ?_⟩
    · simp (disch := omega) only [zsT_ne]; exact hT
    · simp (disch := omega) only [zsT_ne, zsT_eq]
    · simp (disch := omega) only [zsT_ne, zsT_eq]
    · simp (disch := omega) only [zsT_ne, zsT_eq]
    · simp (disch := omega) only [zsT_ne, zsT_eq]
    · simp (disch := omega) only [zzR_neF, zsR_nj, zsR_eq]
    · simp (disch := omega) only [zzR_neF, zsR_nj, zsR_eq]
    · simp (disch := omega) only [zzR_neF, zsR_nj, zsR_eq]
    · simp (disch := omega) only [zzR_neF, zsR_nj, zsR_eq]
  · intro j hj
    rw [zsF_ne (Or.inr hj)]
    simp (disch := omega) only [zzF_neF]
  · refine ⟨zsF_eq, fun a i c d => ?_⟩
    rcases (show a = B + 1 ∨ a = B + 2 ∨ a = B + 3 ∨ a = B + 4 by omega) with e | e | e | e <;> subst e <;> simp (disch := omega) only [zzA_neF, zzA_eq]
