set_option maxRecDepth 20000 in
theorem s_X1_init {T : zTt} {FR : zFR} {AR : zAR} {FI : zFI} {AI : zAI} {Post : zPost}  (hT : T 14 = (1, 0)) (h0 : (T 15).1 = 0) (hz : 15 < zb) (hp : ∀ (T1 : zTt) (FR1 : zFR) (AR1 : zAR) (FI1 : zFI) (AI1 : zAI), zGr 14 15 T T1 FR FR1 AR AR1 FI FI1 AI AI1 → (T1 14 = (1, 0) ∧ T1 15 = (5, 10) ∧ FR1 14 0 = some 15) → (∀ j, FI1 14 j = FI 14 j) → (∀ i, AR1 15 i = none) → Post (zI 0) T1 FR1 AR1 FI1 AI1) : zMet M_X1_init [zR 14] T FR AR FI AI Post := by
  refine zMet.of [some (zR 14)] rfl rfl rfl (fun G C => ?_)
  refine zv_aload_n C dX1_init_0 rfl rfl ?_
  refine zv_objInit C dX1_init_1 l_X1_1 oi_im oi_cd (Nat.le_of_ble_eq_true rfl) (Nat.le_of_ble_eq_true rfl) ?_
  refine zv_aload_n C dX1_init_4 rfl rfl ?_
  refine zv_bipush C dX1_init_5 rfl ?_
  refine zv_newQ5 (N := 10) C (15) dX1_init_7 cl_X1_9 rfl (by decide) h0 (by rw [Nat.blt_eq]; omega) ⟨Nat.le_of_ble_eq_true rfl, Nat.le_of_ble_eq_true rfl⟩ ?_
  refine zv_putPF C dX1_init_10 f_X1_11 (by first | exact hT | (simp (disch := omega) only [zsT_ne]; exact hT)) rfl rfl (fun h => by cases h; rfl) ?_
  refine zv_return C dX1_init_13 rfl rfl rfl ?_
  refine hp _ _ _ _ _ (fun h hh => ⟨?_, ?_, ?_, ?_, ?_⟩) ⟨?_, ?_, ?_⟩ ?_ ?_
  · simp (disch := omega) only [zsT_ne]
  · simp (disch := omega) only [zsR_neF, zzR_neF]
  · simp (disch := omega) only [zzQ_neF]
  · simp (disch := omega) only [zzF_neF]
  · simp (disch := omega) only [zzA_neF]
  · simp (disch := omega) only [zsT_ne]; exact hT
  · exact zsT_eq
  · exact zsR_eq
  · intro j
    simp (disch := omega) only [zzF_neF]
  · intro i
    exact if_pos rfl
