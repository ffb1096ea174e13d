set_option maxRecDepth 20000 in
theorem s_X8_closingAhead0 {T : zTt} {FR : zFR} {AR : zAR} {FI : zFI} {AI : zAI} {Post : zPost} {B D : Nat} {N : Int → Int} {nI nL : Nat} {o : Int} (hd : dLay T FR B D) (hB : bLay T FR B) (hK : bk FI AI B N) (hW : mW N nI nL) (g0 : 0 ≤ o) (g1 : o < N 2) (gy : N 0 = 0) (hp : Post (zP none) T FR AR FI AI) : zMet M_X8_closingAhead [zR 0, zI o] T FR AR FI AI Post := by
  refine zMet.of [some (zR 0), some (zI o)] rfl rfl rfl (fun G C => ?_)
  obtain ⟨k0, k1, k2, k3, k4, k5, k6, k7, k8⟩ := id hK
  obtain ⟨w0, w1, w2, w3, w4, w5, w6, w7, w8, w9⟩ := id hW
  refine zv_aload_n C dX8_closingAhead_0 rfl rfl ?_
  refine zv_getR C dX8_closingAhead_1 f_X8_44 hd.1 rfl hd.2.2.2.2.2.2.2.2.2.2.2.2.2.1 ?_
  refine zv_getI C dX8_closingAhead_4 f_X8_78 hB.1 rfl ?_
  rw [k0]
  refine zv_if_ne C 14 dX8_closingAhead_7 rfl (fun h7 => absurd h7 (by omega)) (fun h7 => ?_)
  refine zv_null C dX8_closingAhead_10 ?_
  refine zv_goto C 32 dX8_closingAhead_11 rfl ?_
  refine zv_areturn C dX8_closingAhead_32 rfl rfl rfl rfl ?_
  exact hp
set_option maxRecDepth 20000 in
theorem s_X8_closingAhead1 {T : zTt} {FR : zFR} {AR : zAR} {FI : zFI} {AI : zAI} {Post : zPost} {K : Nat} {B D : Nat} {N : Int → Int} {nI nL : Nat} {o : Int} (hd : dLay T FR B D) (hB : bLay T FR B) (hK : bk FI AI B N) (hW : mW N nI nL) (g0 : 0 ≤ o) (g1 : o < N 2) (gy : 0 < N 0) (hq : AR 16 ((N 0 - 1) * 3 + o) = some K) (hp : Post (zR K) T FR AR FI AI) : zMet M_X8_closingAhead [zR 0, zI o] T FR AR FI AI Post := by
  refine zMet.of [some (zR 0), some (zI o)] rfl rfl rfl (fun G C => ?_)
  obtain ⟨k0, k1, k2, k3, k4, k5, k6, k7, k8⟩ := id hK
  obtain ⟨w0, w1, w2, w3, w4, w5, w6, w7, w8, w9⟩ := id hW
  refine zv_aload_n C dX8_closingAhead_0 rfl rfl ?_
  refine zv_getR C dX8_closingAhead_1 f_X8_44 hd.1 rfl hd.2.2.2.2.2.2.2.2.2.2.2.2.2.1 ?_
  refine zv_getI C dX8_closingAhead_4 f_X8_78 hB.1 rfl ?_
  rw [k0]
  refine zv_if_ne C 14 dX8_closingAhead_7 rfl (fun h7 => ?_) (fun h7 => absurd h7 (by omega))
  refine zv_aload_n C dX8_closingAhead_14 rfl rfl ?_
  refine zv_getR C dX8_closingAhead_15 f_X8_37 hd.1 rfl hd.2.2.2.2.2.2.2.2.2.2.2.2.1 ?_
  refine zv_aload_n C dX8_closingAhead_18 rfl rfl ?_
  refine zv_getR C dX8_closingAhead_19 f_X8_44 hd.1 rfl hd.2.2.2.2.2.2.2.2.2.2.2.2.2.1 ?_
  refine zv_getI C dX8_closingAhead_22 f_X8_78 hB.1 rfl ?_
  rw [k0]
  refine zv_iconst C dX8_closingAhead_25 rfl ?_
  refine zv_isub C dX8_closingAhead_26 ⟨by omega, by omega⟩ ?_
  refine zv_iconst C dX8_closingAhead_27 rfl ?_
  refine zv_imul C dX8_closingAhead_28 ⟨by omega, by omega⟩ ?_
  refine zv_iload_n C dX8_closingAhead_29 rfl ?_
  refine zv_iadd C dX8_closingAhead_30 ⟨by omega, by omega⟩ ?_
  refine zv_aaload6 C dX8_closingAhead_31 hd.2.2.2.2.2.2.2.1 ⟨by omega, by omega⟩ ?_
  rw [hq]
  refine zv_areturn C dX8_closingAhead_32 rfl rfl rfl rfl ?_
  exact hp
set_option maxRecDepth 20000 in
theorem s_X8_closingToFillA {T : zTt} {FR : zFR} {AR : zAR} {FI : zFI} {AI : zAI} {Post : zPost} {K : Nat} {B D : Nat} {N : Int → Int} {nI nL : Nat} {o : Int} (hd : dLay T FR B D) (hB : bLay T FR B) (hK : bk FI AI B N) (hW : mW N nI nL) (g0 : 0 ≤ o) (g1 : o < N 2) (gy : N 0 < 39) (hq : AR 16 (N 0 * 3 + o) = some K) (hp : Post (zR K) T FR AR FI AI) : zMet M_X8_closingToFill [zR 0, zI o] T FR AR FI AI Post := by
  refine zMet.of [some (zR 0), some (zI o), none] rfl rfl rfl (fun G C => ?_)
  obtain ⟨k0, k1, k2, k3, k4, k5, k6, k7, k8⟩ := id hK
  obtain ⟨w0, w1, w2, w3, w4, w5, w6, w7, w8, w9⟩ := id hW
  refine zv_aload_n C dX8_closingToFill_0 rfl rfl ?_
  refine zv_getR C dX8_closingToFill_1 f_X8_44 hd.1 rfl hd.2.2.2.2.2.2.2.2.2.2.2.2.2.1 ?_
  refine zv_getI C dX8_closingToFill_4 f_X8_78 hB.1 rfl ?_
  rw [k0]
  refine zv_iconst C dX8_closingToFill_7 rfl ?_
  refine zv_imul C dX8_closingToFill_8 ⟨by omega, by omega⟩ ?_
  refine zv_iload_n C dX8_closingToFill_9 rfl ?_
  refine zv_iadd C dX8_closingToFill_10 ⟨by omega, by omega⟩ ?_
  refine zv_istore_2 C dX8_closingToFill_11 rfl rfl ?_
  refine zv_aload_n C dX8_closingToFill_12 rfl rfl ?_
  refine zv_getR C dX8_closingToFill_13 f_X8_37 hd.1 rfl hd.2.2.2.2.2.2.2.2.2.2.2.2.1 ?_
  refine zv_iload_n C dX8_closingToFill_16 rfl ?_
  refine zv_aaload6 C dX8_closingToFill_17 hd.2.2.2.2.2.2.2.1 ⟨by omega, by omega⟩ ?_
  rw [hq]
  refine zv_ifnonnull C 34 dX8_closingToFill_18 rfl (fun _ _ => ?_) (fun h => by cases h)
  refine zv_aload_n C dX8_closingToFill_34 rfl rfl ?_
  refine zv_getR C dX8_closingToFill_35 f_X8_37 hd.1 rfl hd.2.2.2.2.2.2.2.2.2.2.2.2.1 ?_
  refine zv_iload_n C dX8_closingToFill_38 rfl ?_
  refine zv_aaload6 C dX8_closingToFill_39 hd.2.2.2.2.2.2.2.1 ⟨by omega, by omega⟩ ?_
  rw [hq]
  refine zv_areturn C dX8_closingToFill_40 rfl rfl rfl rfl ?_
  exact hp
set_option maxRecDepth 20000 in
theorem s_X8_closingToFillB {T : zTt} {FR : zFR} {AR : zAR} {FI : zFI} {AI : zAI} {Post : zPost} {K : Nat} {B D : Nat} {N : Int → Int} {nI nL : Nat} {o : Int} (hd : dLay T FR B D) (hB : bLay T FR B) (hK : bk FI AI B N) (hW : mW N nI nL) (g0 : 0 ≤ o) (g1 : o < N 2) (gy : N 0 < 39) (hq : AR 16 (N 0 * 3 + o) = none) (hf : ∀ k, K ≤ k → k ≤ K + 3 → (T k).1 = 0) (hz : K + 3 < zb) (gK : 17 ≤ K) (hp : ∀ (T1 : zTt) (FR1 : zFR) (AR1 : zAR) (FI1 : zFI) (AI1 : zAI), zGr K (K + 3) T T1 FR FR1 AR AR1 FI FI1 AI AI1 → kLay T1 FR1 K → (∀ a i, K + 1 ≤ a → a ≤ K + 3 → AI1 a i = 0) → Post (zR K) T1 FR1 (zsQ AR1 16 (N 0 * 3 + o) (some K)) FI1 AI1) : zMet M_X8_closingToFill [zR 0, zI o] T FR AR FI AI Post := by
  refine zMet.of [some (zR 0), some (zI o), none] rfl rfl rfl (fun G C => ?_)
  obtain ⟨k0, k1, k2, k3, k4, k5, k6, k7, k8⟩ := id hK
  obtain ⟨w0, w1, w2, w3, w4, w5, w6, w7, w8, w9⟩ := id hW
  refine zv_aload_n C dX8_closingToFill_0 rfl rfl ?_
  refine zv_getR C dX8_closingToFill_1 f_X8_44 hd.1 rfl hd.2.2.2.2.2.2.2.2.2.2.2.2.2.1 ?_
  refine zv_getI C dX8_closingToFill_4 f_X8_78 hB.1 rfl ?_
  rw [k0]
  refine zv_iconst C dX8_closingToFill_7 rfl ?_
  refine zv_imul C dX8_closingToFill_8 ⟨by omega, by omega⟩ ?_
  refine zv_iload_n C dX8_closingToFill_9 rfl ?_
  refine zv_iadd C dX8_closingToFill_10 ⟨by omega, by omega⟩ ?_
  refine zv_istore_2 C dX8_closingToFill_11 rfl rfl ?_
  refine zv_aload_n C dX8_closingToFill_12 rfl rfl ?_
  refine zv_getR C dX8_closingToFill_13 f_X8_37 hd.1 rfl hd.2.2.2.2.2.2.2.2.2.2.2.2.1 ?_
  refine zv_iload_n C dX8_closingToFill_16 rfl ?_
  refine zv_aaload6 C dX8_closingToFill_17 hd.2.2.2.2.2.2.2.1 ⟨by omega, by omega⟩ ?_
  rw [hq]
  refine zv_ifnonnull C 34 dX8_closingToFill_18 rfl (fun a h => by cases h) (fun _ => ?_)
  refine zv_aload_n C dX8_closingToFill_21 rfl rfl ?_
  refine zv_getR C dX8_closingToFill_22 f_X8_37 hd.1 rfl hd.2.2.2.2.2.2.2.2.2.2.2.2.1 ?_
  refine zv_iload_n C dX8_closingToFill_25 rfl ?_
  refine zv_new C (K) dX8_closingToFill_26 zcl_2 cl_X8_35 in_X3 ini_21 (by decide) (hf K (by omega) (by omega)) (by rw [Nat.blt_eq]; omega) ⟨Nat.le_of_ble_eq_true rfl, Nat.le_of_ble_eq_true rfl⟩ ?_
  refine zv_dup C dX8_closingToFill_29 rfl ?_
  refine zv_cINn C dX8_closingToFill_30 k_X3_init l_X8_261 ⟨Nat.le_of_ble_eq_true rfl, Nat.le_of_ble_eq_true rfl⟩ 4 90 ⟨rfl, rfl⟩ ⟨Nat.le_of_ble_eq_true rfl, Nat.le_of_ble_eq_true rfl⟩ rfl rfl ?_
  refine s_X3_init zsT_eq (by rw [zsT_ne (by omega)]; exact hf (K + 1) (by omega) (by omega)) (by rw [zsT_ne (by omega)]; exact hf (K + 2) (by omega) (by omega)) (by rw [zsT_ne (by omega)]; exact hf (K + 3) (by omega) (by omega)) hz (fun T1 FR1 AR1 FI1 AI1 gr hlay hfi hai => ?_)
  have gr2 : zGr K (K + 3) T T1 FR FR1 AR AR1 FI FI1 AI AI1 := fun h hh => by
    have q := gr h hh
    rw [zsT_ne (by omega), zzR_neF (by omega), zzQ_neF (by omega), zzF_neF (by omega), zzA_neF (by omega)] at q
    exact q
  have hd := dLay_gr hd (fun k hk => ⟨(gr2 k (by omega)).1, (gr2 k (by omega)).2.1⟩)
  have hk : kLay T1 FR1 K := hlay
  have hk1 := hk.1
  refine zv_aastore6 C dX8_closingToFill_33 hd.2.2.2.2.2.2.2.1 hk1 ⟨by omega, by omega⟩ ?_
  refine zv_aload_n C dX8_closingToFill_34 rfl rfl ?_
  refine zv_getR C dX8_closingToFill_35 f_X8_37 hd.1 rfl hd.2.2.2.2.2.2.2.2.2.2.2.2.1 ?_
  refine zv_iload_n C dX8_closingToFill_38 rfl ?_
  refine zv_aaload6 C dX8_closingToFill_39 hd.2.2.2.2.2.2.2.1 ⟨by omega, by omega⟩ ?_
  rw [zsQ_eq]
  refine zv_areturn C dX8_closingToFill_40 rfl rfl rfl rfl ?_
  exact hp T1 FR1 AR1 FI1 AI1 gr2 hk hai
