theorem kS_lay {T : zTt} {FR : zFR} {AR : zAR} {y o : Nat} (h : kS T FR AR y o) (e : AR 16 ((y : Int) * 3 + o) = some (kH y o)) : kLay T FR (kH y o) := by
  rcases h with ⟨-, b⟩ | ⟨a, -⟩
  · exact b
  · rw [a] at e; cases e
set_option maxRecDepth 20000 in
theorem ye_1 {Post : zPost} {G : zG} (C : zCx M_X8_yearEnd Post G) {B D y m : Nat} {N : Int → Int} {T0 : zTt} {FR0 : zFR} {AR0 : zAR} {F0 : zFI} {A0 : zAI} (hG : mG N) (hy : N 0 = y) (gy : y < 39) (hm : N 2 = m) (gB : 16 < B) (gB2 : B + 4 < 200)
    (hE : ∀ (w : Option zVal) (T : zTt) (FR : zFR) (AR : zAR) (F : zFI) (A : zAI), ye1 B D y N m T FR AR F A → yR B y T0 T FR0 FR AR0 AR F0 F A0 A → zV G 74 [some (zR 0), some (zI (m : Int)), w] [] T FR AR F A (5 + 4 * m) (439 + 90 * m)) :
    ∀ (d k : Nat) (w : Option zVal) (T : zTt) (FR : zFR) (AR : zAR) (F : zFI) (A : zAI), k + d = m → ye1 B D y N k T FR AR F A → yR B y T0 T FR0 FR AR0 AR F0 F A0 A → zV G 27 [some (zR 0), some (zI (k : Int)), w] [] T FR AR F A (5 + 4 * k) (439 + 90 * k) := by
  have hm3 : 1 ≤ m ∧ m ≤ 3 := by have := hG.1.2.2.1; omega
  intro d
  induction d with
  | zero =>
    intro k w T FR AR F A hkd h hR
    obtain ⟨hd, hc, hB, hs, hK, ho, hO⟩ := id h
    have ek : k = m := by omega
    subst ek
    have k2 : F B 6 = k := hK.2.2.1.trans (((zit_Br hG k (by omega)).2 2 (by omega)).trans hm)
    refine zv_iload_n C dX8_yearEnd_27 rfl ?_
    refine zv_aload_n C dX8_yearEnd_28 rfl rfl ?_
    refine zv_getR C dX8_yearEnd_29 f_X8_44 hd.1 rfl hd.2.2.2.2.2.2.2.2.2.2.2.2.2.1 ?_
    refine zv_getI C dX8_yearEnd_32 f_X8_84 hB.1 rfl ?_
    rw [k2]
    refine zv_icmp_ge C 74 dX8_yearEnd_35 rfl (fun h35 => ?_) (fun h35 => absurd h35 (by omega))
    exact hE w T FR AR F A h hR
  | succ d ih =>
    intro k w T FR AR F A hkd h hR
    obtain ⟨hd, hc, hB, hs, hK, ho, hO⟩ := id h
    have z := zit_Br hG k (by omega)
    have zn := zit_Br hG (k + 1) (by omega)
    have k2 : F B 6 = m := hK.2.2.1.trans ((z.2 2 (by omega)).trans hm)
    have zw := z.1.1
    have zb : zit nBr N k 2 ≤ 3 ∧ zit nBr N k 3 ≤ 30 ∧ zit nBr N k 4 ≤ 10 := ⟨zw.2.2.1.2, by have := zw.2.2.2.1; have := zw.2.2.2.2.1; omega, by have := zw.2.2.2.2.2.1; have := zw.2.2.2.2.2.2.1; omega⟩
    have n0 : zit nBr N (k + 1) 0 = y := (zn.2 0 (by omega)).trans hy
    have n2 : zit nBr N (k + 1) 2 = m := (zn.2 2 (by omega)).trans hm
    refine zv_iload_n C dX8_yearEnd_27 rfl ?_
    refine zv_aload_n C dX8_yearEnd_28 rfl rfl ?_
    refine zv_getR C dX8_yearEnd_29 f_X8_44 hd.1 rfl hd.2.2.2.2.2.2.2.2.2.2.2.2.2.1 ?_
    refine zv_getI C dX8_yearEnd_32 f_X8_84 hB.1 rfl ?_
    rw [k2]
    refine zv_icmp_ge C 74 dX8_yearEnd_35 rfl (fun h35 => absurd h35 (by omega)) (fun h35 => ?_)
    refine zv_aload_n C dX8_yearEnd_38 rfl rfl ?_
    refine zv_getR C dX8_yearEnd_39 f_X8_44 hd.1 rfl hd.2.2.2.2.2.2.2.2.2.2.2.2.2.1 ?_
    refine zv_iload_n C dX8_yearEnd_42 rfl ?_
    refine zv_cVi0_1 C dX8_yearEnd_43 k_X2_incomeOf l_X8_223 hB.1 rfl ⟨(by first | exact Nat.le_of_ble_eq_true rfl | (show _ ≤ (29 : Nat); omega) | (show _ ≤ (979 : Nat); omega)), (by first | exact Nat.le_of_ble_eq_true rfl | (show _ ≤ (29 : Nat); omega) | (show _ ≤ (979 : Nat); omega))⟩ ⟨rfl, rfl⟩ ⟨(by first | exact Nat.le_of_ble_eq_true rfl | (show _ ≤ (29 : Nat); omega) | (show _ ≤ (979 : Nat); omega)), (by first | exact Nat.le_of_ble_eq_true rfl | (show _ ≤ (29 : Nat); omega) | (show _ ≤ (979 : Nat); omega))⟩ rfl rfl ?_
    refine s_X2_incomeOf hB hK z.1.1 (by omega) (by omega) ?_
    refine zv_istore_2 C dX8_yearEnd_46 rfl rfl ?_
    refine zv_aload_n C dX8_yearEnd_47 rfl rfl ?_
    refine zv_getR C dX8_yearEnd_48 f_X8_44 hd.1 rfl hd.2.2.2.2.2.2.2.2.2.2.2.2.2.1 ?_
    refine zv_iload_n C dX8_yearEnd_51 rfl ?_
    refine zv_iload_n C dX8_yearEnd_52 rfl ?_
    refine zv_cVv0_2 C dX8_yearEnd_53 k_X2_settleIncome l_X8_226 hB.1 rfl ⟨(by first | exact Nat.le_of_ble_eq_true rfl | (show _ ≤ (29 : Nat); omega) | (show _ ≤ (979 : Nat); omega)), (by first | exact Nat.le_of_ble_eq_true rfl | (show _ ≤ (29 : Nat); omega) | (show _ ≤ (979 : Nat); omega))⟩ ⟨rfl, rfl⟩ ⟨(by first | exact Nat.le_of_ble_eq_true rfl | (show _ ≤ (29 : Nat); omega) | (show _ ≤ (979 : Nat); omega)), (by first | exact Nat.le_of_ble_eq_true rfl | (show _ ≤ (29 : Nat); omega) | (show _ ≤ (979 : Nat); omega))⟩ rfl rfl ?_
    refine s_X2_settleIncome hB (bk_same hK zb (nB1_same (by omega) zw.1.1)) zw (by omega) (by omega) rfl (fun F2 A2 f2 kk => ?_)
    have kk : bk F2 A2 B (zit nBr N (k + 1)) := kk
    refine zv_aload_n C dX8_yearEnd_56 rfl rfl ?_
    refine zv_iload_n C dX8_yearEnd_57 rfl ?_
    refine zv_cVin_1 C dX8_yearEnd_58 k_X8_closingToFill l_X8_229 hd.1 rfl ⟨(by first | exact Nat.le_of_ble_eq_true rfl | (show _ ≤ (29 : Nat); omega) | (show _ ≤ (979 : Nat); omega)), (by first | exact Nat.le_of_ble_eq_true rfl | (show _ ≤ (29 : Nat); omega) | (show _ ≤ (979 : Nat); omega))⟩ (5 + 4 * (k + 1)) (439 + 90 * (k + 1)) ⟨by show _ + 4 = _; omega, by show _ + 90 = _; omega⟩ ⟨(by first | exact Nat.le_of_ble_eq_true rfl | (show _ ≤ (29 : Nat); omega) | (show _ ≤ (979 : Nat); omega)), (by first | exact Nat.le_of_ble_eq_true rfl | (show _ ≤ (29 : Nat); omega) | (show _ ≤ (979 : Nat); omega))⟩ rfl rfl ?_
    refine s_X8_closingToFill (N := zit nBr N (k + 1)) hd hB kk zn.1.1 n0 gy (by rw [n2]; omega) (hs y k gy (by omega)) (fun T3 FR3 AR3 F3 A3 kf => ?_)
    have hk := kf.2.2.2
    refine zv_getR C dX8_yearEnd_61 f_X8_174 hk.1 rfl hk.2.2.2.2.1 ?_
    refine zv_bipush C dX8_yearEnd_64 rfl ?_
    refine zv_iload_n C dX8_yearEnd_66 rfl ?_
    refine zv_iastore C dX8_yearEnd_67 hk.2.1 ⟨by omega, by omega⟩ ?_
    refine zv_iinc_1 C dX8_yearEnd_68 rfl rfl ⟨by omega, by omega⟩ ?_
    refine zv_goto C 27 dX8_yearEnd_71 rfl ?_
    have st := ye1_step hG hy gy (by omega) gB gB2 h f2 kk kf rfl
    exact ih (k + 1) _ _ _ _ _ _ (by omega) st.1 (hR.trans st.2)
set_option maxRecDepth 20000 in
theorem ye_2 {Post : zPost} {G : zG} (C : zCx M_X8_yearEnd Post G) {B D y m : Nat} {N : Int → Int} {T0 : zTt} {FR0 : zFR} {AR0 : zAR} {F0 : zFI} {A0 : zAI} (hG : mG N) (hy : N 0 = y) (gy : y < 39) (hm : N 2 = m) (gB : 16 < B) (gB2 : B + 4 < 200)
    (hE : ∀ (w : Option zVal) (T : zTt) (FR : zFR) (AR : zAR) (F : zFI) (A : zAI), ye2 B D y m N m T FR AR F A → yR B y T0 T FR0 FR AR0 AR F0 F A0 A → zV G 122 [some (zR 0), some (zI (m : Int)), w] [] T FR AR F A (5 + 4 * (m + m)) (439 + 90 * (m + m))) :
    ∀ (d k : Nat) (w : Option zVal) (T : zTt) (FR : zFR) (AR : zAR) (F : zFI) (A : zAI), k + d = m → ye2 B D y m N k T FR AR F A → yR B y T0 T FR0 FR AR0 AR F0 F A0 A → zV G 76 [some (zR 0), some (zI (k : Int)), w] [] T FR AR F A (5 + 4 * (m + k)) (439 + 90 * (m + k)) := by
  have hm3 : 1 ≤ m ∧ m ≤ 3 := by have := hG.1.2.2.1; omega
  intro d
  induction d with
  | zero =>
    intro k w T FR AR F A hkd h hR
    obtain ⟨hd, hc, hB, hs, hK, h6s, hc2, hO⟩ := id h
    have ek : k = m := by omega
    subst ek
    have k2 : F B 6 = k := hK.2.2.1.trans (((zit_Cs hG k (by omega)).2 2 (by omega) (by omega)).trans hm)
    refine zv_iload_n C dX8_yearEnd_76 rfl ?_
    refine zv_aload_n C dX8_yearEnd_77 rfl rfl ?_
    refine zv_getR C dX8_yearEnd_78 f_X8_44 hd.1 rfl hd.2.2.2.2.2.2.2.2.2.2.2.2.2.1 ?_
    refine zv_getI C dX8_yearEnd_81 f_X8_84 hB.1 rfl ?_
    rw [k2]
    refine zv_icmp_ge C 122 dX8_yearEnd_84 rfl (fun h84 => ?_) (fun h84 => absurd h84 (by omega))
    exact hE w T FR AR F A h hR
  | succ d ih =>
    intro k w T FR AR F A hkd h hR
    obtain ⟨hd, hc, hB, hs, hK, h6s, hc2, hO⟩ := id h
    have z := zit_Cs hG k (by omega)
    have m2 : zit nCs N k 2 = m := (z.2 2 (by omega) (by omega)).trans hm
    have m0 : zit nCs N k 0 = y := (z.2 0 (by omega) (by omega)).trans hy
    have k2 : F B 6 = m := hK.2.2.1.trans m2
    have hkK := kS_lay (hs y k gy (by omega)) (h6s k (by omega)).1
    have eK : kH y k = 200 + 4 * (3 * y + k) := rfl
    refine zv_iload_n C dX8_yearEnd_76 rfl ?_
    refine zv_aload_n C dX8_yearEnd_77 rfl rfl ?_
    refine zv_getR C dX8_yearEnd_78 f_X8_44 hd.1 rfl hd.2.2.2.2.2.2.2.2.2.2.2.2.2.1 ?_
    refine zv_getI C dX8_yearEnd_81 f_X8_84 hB.1 rfl ?_
    rw [k2]
    refine zv_icmp_ge C 122 dX8_yearEnd_84 rfl (fun h84 => absurd h84 (by omega)) (fun h84 => ?_)
    refine zv_aload_n C dX8_yearEnd_87 rfl rfl ?_
    refine zv_getR C dX8_yearEnd_88 f_X8_24 hd.1 rfl hd.2.2.2.2.2.2.2.2.2.2.1 ?_
    refine zv_aload_n C dX8_yearEnd_91 rfl rfl ?_
    refine zv_getR C dX8_yearEnd_92 f_X8_44 hd.1 rfl hd.2.2.2.2.2.2.2.2.2.2.2.2.2.1 ?_
    refine zv_iload_n C dX8_yearEnd_95 rfl ?_
    refine zv_cVv0_2 C dX8_yearEnd_96 k_X4_workOut l_X8_145 hc.1 rfl ⟨(by first | exact Nat.le_of_ble_eq_true rfl | (show _ ≤ (29 : Nat); omega) | (show _ ≤ (979 : Nat); omega)), (by first | exact Nat.le_of_ble_eq_true rfl | (show _ ≤ (29 : Nat); omega) | (show _ ≤ (979 : Nat); omega))⟩ ⟨rfl, rfl⟩ ⟨(by first | exact Nat.le_of_ble_eq_true rfl | (show _ ≤ (29 : Nat); omega) | (show _ ≤ (979 : Nat); omega)), (by first | exact Nat.le_of_ble_eq_true rfl | (show _ ≤ (29 : Nat); omega) | (show _ ≤ (979 : Nat); omega))⟩ rfl rfl ?_
    refine s_X4_workOut hc hB hK z.1.1 (by omega) (by omega) (by rw [m2]; omega) (fun F2 A2 hv cf => ?_)
    have hK2 := cf.bk hK (by omega)
    refine zv_aload_n C dX8_yearEnd_99 rfl rfl ?_
    refine zv_iload_n C dX8_yearEnd_100 rfl ?_
    refine zv_cVin_1 C dX8_yearEnd_101 k_X8_closingToFill l_X8_229 hd.1 rfl ⟨(by first | exact Nat.le_of_ble_eq_true rfl | (show _ ≤ (29 : Nat); omega) | (show _ ≤ (979 : Nat); omega)), (by first | exact Nat.le_of_ble_eq_true rfl | (show _ ≤ (29 : Nat); omega) | (show _ ≤ (979 : Nat); omega))⟩ (5 + 4 * (m + (k + 1))) (439 + 90 * (m + (k + 1))) ⟨by show _ + 4 = _; omega, by show _ + 90 = _; omega⟩ ⟨(by first | exact Nat.le_of_ble_eq_true rfl | (show _ ≤ (29 : Nat); omega) | (show _ ≤ (979 : Nat); omega)), (by first | exact Nat.le_of_ble_eq_true rfl | (show _ ≤ (29 : Nat); omega) | (show _ ≤ (979 : Nat); omega))⟩ rfl rfl ?_
    refine s_X8_closingToFillA (K := kH y k) hd hB hK2 z.1.1 (by omega) (by rw [m2]; omega) (by rw [m0]; omega) (by rw [m0]; exact (h6s k (by omega)).1) ?_
    refine zv_aload_n C dX8_yearEnd_104 rfl rfl ?_
    refine zv_getR C dX8_yearEnd_105 f_X8_24 hd.1 rfl hd.2.2.2.2.2.2.2.2.2.2.1 ?_
    refine zv_aload_n C dX8_yearEnd_108 rfl rfl ?_
    refine zv_iload_n C dX8_yearEnd_109 rfl ?_
    by_cases c0 : y = 0
    · refine zv_cVi0_1 C dX8_yearEnd_110 k_X8_closingAhead l_X8_233 hd.1 rfl ⟨(by first | exact Nat.le_of_ble_eq_true rfl | (show _ ≤ (29 : Nat); omega) | (show _ ≤ (979 : Nat); omega)), (by first | exact Nat.le_of_ble_eq_true rfl | (show _ ≤ (29 : Nat); omega) | (show _ ≤ (979 : Nat); omega))⟩ ⟨rfl, rfl⟩ ⟨(by first | exact Nat.le_of_ble_eq_true rfl | (show _ ≤ (29 : Nat); omega) | (show _ ≤ (979 : Nat); omega)), (by first | exact Nat.le_of_ble_eq_true rfl | (show _ ≤ (29 : Nat); omega) | (show _ ≤ (979 : Nat); omega))⟩ rfl rfl ?_
      refine s_X8_closingAhead0 hd hB hK2 z.1.1 (by omega) (by rw [m2]; omega) (by rw [m0]; omega) ?_
      refine zv_cVv0_2 C dX8_yearEnd_113 k_X3_fill l_X8_236 hkK.1 rfl ⟨(by first | exact Nat.le_of_ble_eq_true rfl | (show _ ≤ (29 : Nat); omega) | (show _ ≤ (979 : Nat); omega)), (by first | exact Nat.le_of_ble_eq_true rfl | (show _ ≤ (29 : Nat); omega) | (show _ ≤ (979 : Nat); omega))⟩ ⟨rfl, rfl⟩ ⟨(by first | exact Nat.le_of_ble_eq_true rfl | (show _ ≤ (29 : Nat); omega) | (show _ ≤ (979 : Nat); omega)), (by first | exact Nat.le_of_ble_eq_true rfl | (show _ ≤ (29 : Nat); omega) | (show _ ≤ (979 : Nat); omega))⟩ rfl rfl ?_
      refine ye_fill0 z.1 m0 (by omega) hkK hc hv (by rw [cf.1 _ (by omega)]; exact (h6s k (by omega)).2) c0 (fun A3 g3 hV hT h6 => ?_)
      refine zv_iinc_1 C dX8_yearEnd_116 rfl rfl ⟨by omega, by omega⟩ ?_
      refine zv_goto C 76 dX8_yearEnd_119 rfl ?_
      have st := ye2_step hG hy gy hm (by omega) gB gB2 h cf g3 hV hT h6
      exact ih (k + 1) _ _ _ _ _ _ (by omega) st.1 (hR.trans st.2)
    · have ah := hO (y - 1) k (by omega) (by omega)
      have hkA := kS_lay (hs (y - 1) k (by omega) (by omega)) ah.1
      have eA : kH (y - 1) k = 200 + 4 * (3 * (y - 1) + k) := rfl
      rw [show ((y - 1 : Nat) : Int) = (y : Int) - 1 by omega] at ah
      refine zv_cVi0_1 C dX8_yearEnd_110 k_X8_closingAhead l_X8_233 hd.1 rfl ⟨(by first | exact Nat.le_of_ble_eq_true rfl | (show _ ≤ (29 : Nat); omega) | (show _ ≤ (979 : Nat); omega)), (by first | exact Nat.le_of_ble_eq_true rfl | (show _ ≤ (29 : Nat); omega) | (show _ ≤ (979 : Nat); omega))⟩ ⟨rfl, rfl⟩ ⟨(by first | exact Nat.le_of_ble_eq_true rfl | (show _ ≤ (29 : Nat); omega) | (show _ ≤ (979 : Nat); omega)), (by first | exact Nat.le_of_ble_eq_true rfl | (show _ ≤ (29 : Nat); omega) | (show _ ≤ (979 : Nat); omega))⟩ rfl rfl ?_
      refine s_X8_closingAhead1 (K := kH (y - 1) k) hd hB hK2 z.1.1 (by omega) (by rw [m2]; omega) (by rw [m0]; omega) (by rw [m0]; exact ah.1) ?_
      refine zv_cVv0_2 C dX8_yearEnd_113 k_X3_fill l_X8_236 hkK.1 rfl ⟨(by first | exact Nat.le_of_ble_eq_true rfl | (show _ ≤ (29 : Nat); omega) | (show _ ≤ (979 : Nat); omega)), (by first | exact Nat.le_of_ble_eq_true rfl | (show _ ≤ (29 : Nat); omega) | (show _ ≤ (979 : Nat); omega))⟩ ⟨rfl, rfl⟩ ⟨(by first | exact Nat.le_of_ble_eq_true rfl | (show _ ≤ (29 : Nat); omega) | (show _ ≤ (979 : Nat); omega)), (by first | exact Nat.le_of_ble_eq_true rfl | (show _ ≤ (29 : Nat); omega) | (show _ ≤ (979 : Nat); omega))⟩ rfl rfl ?_
      refine ye_fill1 z.1 m0 gy (by omega) hkK hc hv (by rw [cf.1 _ (by omega)]; exact (h6s k (by omega)).2) (by omega) rfl hkA (kV_c ah.2.1 (cf.1 _ (by omega)) (fun _ _ _ => rfl)) (kT_c (ah.2.2 (by omega) (by omega)) ⟨cf.1 _ (by omega), cf.1 _ (by omega)⟩ (fun _ _ _ _ => ⟨rfl, rfl⟩)) (fun A3 g3 hV hT h6 => ?_)
      refine zv_iinc_1 C dX8_yearEnd_116 rfl rfl ⟨by omega, by omega⟩ ?_
      refine zv_goto C 76 dX8_yearEnd_119 rfl ?_
      have st := ye2_step hG hy gy hm (by omega) gB gB2 h cf g3 hV hT h6
      exact ih (k + 1) _ _ _ _ _ _ (by omega) st.1 (hR.trans st.2)
set_option maxRecDepth 20000 in
theorem s_X8_yearEnd {T : zTt} {FR : zFR} {AR : zAR} {FI : zFI} {AI : zAI} {Post : zPost} {B D B2 : Nat} {N : Int → Int} {nI nL : Nat}  (hd : dLay T FR B D) (hc : cLay T FR) (hB : bLay T FR B) (hK : bk FI AI B N) (hW : mW N nI nL) (gB : 14 ≤ B) (hq : (AR 15 (FI 14 1) = some B2 ∧ bLay T FR B2) ∨ (AR 15 (FI 14 1) = none ∧ ∀ k, B2 ≤ k → k ≤ B2 + 4 → (T k).1 = 0)) (hz : B2 + 4 < zb) (gB2 : 17 ≤ B2) (a0 : 0 ≤ FI 14 1) (a1 : FI 14 1 < 10) (a2 : 0 ≤ FI 14 2) (a3 : FI 14 2 ≤ 10) (gd : B + 5 ≤ B2 ∨ B2 + 5 ≤ B) (gB3 : 14 < B) (hG : mG N) (hs : kSA T FR AR) (hO : cOK AR AI N) (gBa : 16 < B) (gBb : B + 4 < 200) (gBc : B2 + 4 < 200) (hn : N 0 = 39 → Post (zI (-1)) T FR AR FI AI) (hp : N 0 < 39 → ∀ (T1 : zTt) (FR1 : zFR) (AR1 : zAR) (F1 : zFI) (A1 : zAI), kpR B2 T T1 FR FR1 AR AR1 FI F1 AI A1 N → ∀ (T2 : zTt) (FR2 : zFR) (AR2 : zAR) (F2 : zFI) (A2 : zAI), yR B (N 0).toNat T1 T2 FR1 FR2 AR1 AR2 F1 F2 A1 A2 → dLay T2 FR2 B D → cLay T2 FR2 → bLay T2 FR2 B → kSA T2 FR2 AR2 → bk F2 A2 B (nYear N) → cOK AR2 A2 (nYear N) → Post (zI (N 0 + 1)) T2 FR2 AR2 F2 A2) : zMet M_X8_yearEnd [zR 0] T FR AR FI AI Post := by
  refine zMet.of [some (zR 0), none, none] rfl rfl rfl (fun G C => ?_)
  obtain ⟨k0, k1, k2, k3, k4, k5, k6, k7, k8⟩ := id hK
  obtain ⟨w0, w1, w2, w3, w4, w5, w6, w7, w8, w9⟩ := id hW
  obtain ⟨k0, k1, k2, k3, k4, k5, k6, k7, k8⟩ := id hK
  obtain ⟨w0, w1, w2, w3, w4, w5, w6, w7, w8, w9⟩ := id hW
  refine zv_aload_n C dX8_yearEnd_0 rfl rfl ?_
  refine zv_getR C dX8_yearEnd_1 f_X8_44 hd.1 rfl hd.2.2.2.2.2.2.2.2.2.2.2.2.2.1 ?_
  refine zv_getI C dX8_yearEnd_4 f_X8_78 hB.1 rfl ?_
  refine zv_bipush C dX8_yearEnd_7 rfl ?_
  rw [k0]
  refine zv_icmp_lt C 14 dX8_yearEnd_9 rfl (fun h9 => ?_) (fun h9 => ?_)
  · refine zv_aload_n C dX8_yearEnd_14 rfl rfl ?_
    refine zv_getR C dX8_yearEnd_15 f_X8_31 hd.1 rfl hd.2.2.2.2.2.2.2.2.2.2.2.1 ?_
    refine zv_aload_n C dX8_yearEnd_18 rfl rfl ?_
    refine zv_getR C dX8_yearEnd_19 f_X8_44 hd.1 rfl hd.2.2.2.2.2.2.2.2.2.2.2.2.2.1 ?_
    refine zv_cVvn_1 C dX8_yearEnd_22 k_X1_keep l_X8_194 hd.2.2.2.2.2.1 rfl ⟨(by first | exact Nat.le_of_ble_eq_true rfl | (show _ ≤ (29 : Nat); omega) | (show _ ≤ (979 : Nat); omega)), (by first | exact Nat.le_of_ble_eq_true rfl | (show _ ≤ (29 : Nat); omega) | (show _ ≤ (979 : Nat); omega))⟩ 5 439 ⟨rfl, rfl⟩ ⟨(by first | exact Nat.le_of_ble_eq_true rfl | (show _ ≤ (29 : Nat); omega) | (show _ ≤ (979 : Nat); omega)), (by first | exact Nat.le_of_ble_eq_true rfl | (show _ ≤ (29 : Nat); omega) | (show _ ≤ (979 : Nat); omega))⟩ rfl rfl ?_
    refine s_X1_keep hd hB hq hz gB2 a0 a1 a2 a3 hK (by omega) gd (fun T1 FR1 AR1 F1 A1 kp => ?_)
    have hd := kpR_d kp hd gB2
    have hB := kpR_lay kp hB gd
    have hK1 := kpR_bk kp hK gd gB3
    obtain ⟨k0, k1, k2, k3, k4, k5, k6, k7, k8⟩ := id hK1
    refine zv_iconst C dX8_yearEnd_25 rfl ?_
    refine zv_istore_1 C dX8_yearEnd_26 rfl rfl ?_
    obtain ⟨y, hy⟩ : ∃ y : Nat, N 0 = y := ⟨(N 0).toNat, by omega⟩
    obtain ⟨m, hm⟩ : ∃ m : Nat, N 2 = m := ⟨(N 2).toNat, by omega⟩
    have gy : y < 39 := by omega
    have zB := zit_Br hG m (by omega)
    have eH : ∀ y' o' : Nat, kH y' o' = 200 + 4 * (3 * y' + o') := fun _ _ => rfl
    have hc1 : cLay T1 FR1 := cLay_gr hc (fun k a => ⟨(kp.1 k (by omega)).1, (kp.1 k (by omega)).2.1⟩)
    have hs1 : kSA T1 FR1 AR1 := fun y' o' g1 g2 => kS_gr (hs y' o' g1 g2) (fun q a b => by
      have e := eH y' o'
      exact ⟨(kp.1 q (by omega)).1, (kp.1 q (by omega)).2.1⟩) (kp.2.2.2.1 16 _ (by omega) (by omega))
    have hO1 : cOK AR1 A1 N := fun y' o' g1 g2 => by
      have q := hO y' o' g1 g2
      have e := eH y' o'
      exact ⟨(kp.2.2.2.1 16 _ (by omega) (by omega)).trans q.1, kV_c q.2.1 (kp.1 _ (by omega)).2.2 (fun _ _ _ => rfl), fun d => kT_c (q.2.2 d) ⟨(kp.1 _ (by omega)).2.2, (kp.1 _ (by omega)).2.2⟩ (fun _ _ _ _ => ⟨rfl, rfl⟩)⟩
    refine ye_1 C (D := D) hG hy gy hm gBa gBb (fun w2 T2 FR2 AR2 F2 A2 e2 r2 => ?_) m 0 none T1 FR1 AR1 F1 A1 (by omega) ⟨hd, hc1, hB, hs1, hK1, fun o g => by omega, hO1⟩ yR.rfl
    refine zv_iconst C dX8_yearEnd_74 rfl ?_
    refine zv_istore_1 C dX8_yearEnd_75 rfl rfl ?_
    refine ye_2 C (N := zit nBr N m) zB.1 ((zB.2 0 (by omega)).trans hy) gy ((zB.2 2 (by omega)).trans hm) gBa gBb (fun w3 T3 FR3 AR3 F3 A3 e3 r3 => ?_) m 0 _ _ _ _ _ _ (by omega) (ye12 hG hy gy hm e2) r2
    have ky : F3 B 4 = y := e3.2.2.2.2.1.1.trans (((zit_Cs zB.1 m (by omega)).2 0 (by omega) (by omega)).trans ((zB.2 0 (by omega)).trans hy))
    have hd := e3.1
    have hB := e3.2.2.1
    refine zv_aload_n C dX8_yearEnd_122 rfl rfl ?_
    refine zv_getR C dX8_yearEnd_123 f_X8_44 hd.1 rfl hd.2.2.2.2.2.2.2.2.2.2.2.2.2.1 ?_
    refine zv_dup C dX8_yearEnd_126 rfl ?_
    refine zv_getI C dX8_yearEnd_127 f_X8_78 hB.1 rfl ?_
    refine zv_iconst C dX8_yearEnd_130 rfl ?_
    rw [ky]
    refine zv_iadd C dX8_yearEnd_131 ⟨by omega, by omega⟩ ?_
    refine zv_putI C dX8_yearEnd_132 f_X8_78 hB.1 rfl ?_
    refine zv_aload_n C dX8_yearEnd_135 rfl rfl ?_
    refine zv_getR C dX8_yearEnd_136 f_X8_44 hd.1 rfl hd.2.2.2.2.2.2.2.2.2.2.2.2.2.1 ?_
    refine zv_getI C dX8_yearEnd_139 f_X8_78 hB.1 rfl ?_
    try simp (disch := omega) only [zsF_eq, zsF_ne]
    try rw [zsF_eq]
    refine zv_ireturn C dX8_yearEnd_142 rfl rfl (by rw [Nat.ble_eq]; show _ ≤ (29 : Nat); omega) (by rw [Nat.ble_eq]; show _ ≤ (979 : Nat); omega) ?_
    have q := ye2_end hG hy gy hm e3
    obtain ⟨hd, hc, hB, hs, -⟩ := id e3
    refine zpost (by rw [hy]) (hp (by omega) T1 FR1 AR1 F1 A1 kp T3 FR3 AR3 _ A3 (by
      rw [hy, Int.toNat_natCast]
      exact ⟨r3.1, fun h j a b c => (zsF_ne (Or.inl b)).trans (r3.2.1 h j a b c), r3.2.2⟩) hd hc hB hs q.1 q.2)
  · refine zv_iconst C dX8_yearEnd_12 rfl ?_
    refine zv_ireturn C dX8_yearEnd_13 rfl rfl rfl rfl ?_
    exact hn (by omega)

