set_option maxRecDepth 20000 in
theorem s_X4_coverYear {T : zTt} {FR : zFR} {AR : zAR} {FI : zFI} {AI : zAI} {Post : zPost} {t lapse : Int} (hc : cLay T FR) (g0 : 0 ≤ t) (g1 : t ≤ 39) (g2 : t ≤ lapse) (g3 : lapse ≤ 59) (hD : 0 ≤ AI 8 t ∧ AI 8 t ≤ 3000000) (hV : 0 ≤ AI 7 t ∧ AI 7 t ≤ 4000000) (hS : 0 ≤ FI 5 8 ∧ FI 5 8 ≤ 300000000) (hL : ∀ j : Int, t ≤ j → j ≤ 59 → 0 ≤ AI 13 j ∧ AI 13 j ≤ 300000000) (hp : ∀ L1 : Int → Int, (∀ l : Int, t ≤ l → l ≤ 59 → zbk L1 t l = max 0 (zbk (AI 13) t l - (min (FI 5 8) (AI 7 t - (min (AI 8 t) (AI 7 t)))))) → (∀ j : Int, t ≤ j → j ≤ 59 → 0 ≤ L1 j ∧ L1 j ≤ AI 13 j) → Post (zI 0) T FR AR (zsF FI 5 8 (FI 5 8 + (AI 8 t - (min (AI 8 t) (AI 7 t)) - (min (FI 5 8) (AI 7 t - (min (AI 8 t) (AI 7 t)))) - (zu1 L1 lapse (L1 lapse + (AI 8 t - (min (AI 8 t) (AI 7 t))))) t))) (zsA (zrow (zsA (zsA AI 9 t (min (AI 8 t) (AI 7 t))) 10 t ((min (AI 8 t) (AI 7 t)) + (min (FI 5 8) (AI 7 t - (min (AI 8 t) (AI 7 t)))))) 13 (zu1 L1 lapse (L1 lapse + (AI 8 t - (min (AI 8 t) (AI 7 t)))))) 11 t (FI 5 8 + (AI 8 t - (min (AI 8 t) (AI 7 t)) - (min (FI 5 8) (AI 7 t - (min (AI 8 t) (AI 7 t)))) - (zu1 L1 lapse (L1 lapse + (AI 8 t - (min (AI 8 t) (AI 7 t))))) t)))) : zMet M_X4_coverYear [zR 5, zI t, zI lapse] T FR AR FI AI Post := by
  refine zMet.of [some (zR 5), some (zI t), some (zI lapse), none, none] rfl rfl rfl (fun G C => ?_)
  refine zv_aload_n C dX4_coverYear_0 rfl rfl ?_
  refine zv_getR C dX4_coverYear_1 f_X4_21 hc.1 rfl hc.2.2.2.2.2.2.2.2.2.2.2.2.1 ?_
  refine zv_iload_n C dX4_coverYear_4 rfl ?_
  refine zv_aload_n C dX4_coverYear_5 rfl rfl ?_
  refine zv_getR C dX4_coverYear_6 f_X4_18 hc.1 rfl hc.2.2.2.2.2.2.2.2.2.2.2.1 ?_
  refine zv_iload_n C dX4_coverYear_9 rfl ?_
  refine zv_iaload C dX4_coverYear_10 hc.2.2.2.1 ⟨by omega, by omega⟩ ?_
  refine zv_aload_n C dX4_coverYear_11 rfl rfl ?_
  refine zv_getR C dX4_coverYear_12 f_X4_15 hc.1 rfl hc.2.2.2.2.2.2.2.2.2.2.1 ?_
  refine zv_iload_n C dX4_coverYear_15 rfl ?_
  refine zv_iaload C dX4_coverYear_16 hc.2.2.1 ⟨by omega, by omega⟩ ?_
  refine zv_min C dX4_coverYear_17 l_X4_89 mi_st ini_Math mi_cd (Nat.le_of_ble_eq_true rfl) (Nat.le_of_ble_eq_true rfl) ⟨Nat.le_of_ble_eq_true rfl, Nat.le_of_ble_eq_true rfl⟩ ?_
  refine zv_iastore C dX4_coverYear_20 hc.2.2.2.2.1 ⟨by omega, by omega⟩ ?_
  refine zv_aload_n C dX4_coverYear_21 rfl rfl ?_
  refine zv_getI C dX4_coverYear_22 f_X4_70 hc.1 rfl ?_
  try simp (disch := omega) only [zrow_eq, zrow_ne, zsA_eq, zsA_ne, zsF_eq, zsF_ne]
  refine zv_aload_n C dX4_coverYear_25 rfl rfl ?_
  refine zv_getR C dX4_coverYear_26 f_X4_15 hc.1 rfl hc.2.2.2.2.2.2.2.2.2.2.1 ?_
  refine zv_iload_n C dX4_coverYear_29 rfl ?_
  refine zv_iaload C dX4_coverYear_30 hc.2.2.1 ⟨by omega, by omega⟩ ?_
  try simp (disch := omega) only [zrow_eq, zrow_ne, zsA_eq, zsA_ne, zsF_eq, zsF_ne]
  refine zv_aload_n C dX4_coverYear_31 rfl rfl ?_
  refine zv_getR C dX4_coverYear_32 f_X4_21 hc.1 rfl hc.2.2.2.2.2.2.2.2.2.2.2.2.1 ?_
  refine zv_iload_n C dX4_coverYear_35 rfl ?_
  refine zv_iaload C dX4_coverYear_36 hc.2.2.2.2.1 ⟨by omega, by omega⟩ ?_
  try simp (disch := omega) only [zrow_eq, zrow_ne, zsA_eq, zsA_ne, zsF_eq, zsF_ne]
  refine zv_isub C dX4_coverYear_37 ⟨by omega, by omega⟩ ?_
  refine zv_min C dX4_coverYear_38 l_X4_89 mi_st ini_Math mi_cd (Nat.le_of_ble_eq_true rfl) (Nat.le_of_ble_eq_true rfl) ⟨Nat.le_of_ble_eq_true rfl, Nat.le_of_ble_eq_true rfl⟩ ?_
  refine zv_istore_3 C dX4_coverYear_41 rfl rfl ?_
  refine zv_aload_n C dX4_coverYear_42 rfl rfl ?_
  refine zv_getR C dX4_coverYear_43 f_X4_24 hc.1 rfl hc.2.2.2.2.2.2.2.2.2.2.2.2.2.1 ?_
  refine zv_iload_n C dX4_coverYear_46 rfl ?_
  refine zv_aload_n C dX4_coverYear_47 rfl rfl ?_
  refine zv_getR C dX4_coverYear_48 f_X4_21 hc.1 rfl hc.2.2.2.2.2.2.2.2.2.2.2.2.1 ?_
  refine zv_iload_n C dX4_coverYear_51 rfl ?_
  refine zv_iaload C dX4_coverYear_52 hc.2.2.2.2.1 ⟨by omega, by omega⟩ ?_
  try simp (disch := omega) only [zrow_eq, zrow_ne, zsA_eq, zsA_ne, zsF_eq, zsF_ne]
  refine zv_iload_n C dX4_coverYear_53 rfl ?_
  refine zv_iadd C dX4_coverYear_54 ⟨by omega, by omega⟩ ?_
  refine zv_iastore C dX4_coverYear_55 hc.2.2.2.2.2.1 ⟨by omega, by omega⟩ ?_
  refine zv_aload_n C dX4_coverYear_56 rfl rfl ?_
  refine zv_iload_n C dX4_coverYear_57 rfl ?_
  refine zv_iload_n C dX4_coverYear_58 rfl ?_
  refine zv_cVv0_2 C dX4_coverYear_59 k_X4_useEarliest l_X4_94 hc.1 rfl ⟨Nat.le_of_ble_eq_true rfl, Nat.le_of_ble_eq_true rfl⟩ ⟨rfl, rfl⟩ ⟨Nat.le_of_ble_eq_true rfl, Nat.le_of_ble_eq_true rfl⟩ rfl rfl ?_
  refine s_X4_useEarliest hc (by omega) (by omega) (by omega) (by omega) (fun j a b => by rw [zsA_ne (by decide), zsA_ne (by decide)]; have q := hL j a b; omega) (fun L1 h1 h2 h3 => ?_)
  rw [zsA_neF (by decide), zsA_neF (by decide)] at h1 h2
  have l1 := h2 lapse g2 g3
  have l2 := hL lapse g2 g3
  have l3 := h2 t (by omega) (by omega)
  have l4 := hL t (by omega) (by omega)
  generalize hm : min (AI 8 t) (AI 7 t) = mm at *
  generalize ho : min (FI 5 8) (AI 7 t - mm) = oo at *
  refine zv_aload_n C dX4_coverYear_62 rfl rfl ?_
  refine zv_getR C dX4_coverYear_63 f_X4_18 hc.1 rfl hc.2.2.2.2.2.2.2.2.2.2.2.1 ?_
  refine zv_iload_n C dX4_coverYear_66 rfl ?_
  refine zv_iaload C dX4_coverYear_67 hc.2.2.2.1 ⟨by omega, by omega⟩ ?_
  try simp (disch := omega) only [zrow_eq, zrow_ne, zsA_eq, zsA_ne, zsF_eq, zsF_ne]
  refine zv_aload_n C dX4_coverYear_68 rfl rfl ?_
  refine zv_getR C dX4_coverYear_69 f_X4_21 hc.1 rfl hc.2.2.2.2.2.2.2.2.2.2.2.2.1 ?_
  refine zv_iload_n C dX4_coverYear_72 rfl ?_
  refine zv_iaload C dX4_coverYear_73 hc.2.2.2.2.1 ⟨by omega, by omega⟩ ?_
  try simp (disch := omega) only [zrow_eq, zrow_ne, zsA_eq, zsA_ne, zsF_eq, zsF_ne]
  refine zv_isub C dX4_coverYear_74 ⟨by omega, by omega⟩ ?_
  refine zv_istore_4 C dX4_coverYear_75 rfl rfl ?_
  refine zv_iload_n C dX4_coverYear_77 rfl ?_
  refine zv_aload_n C dX4_coverYear_78 rfl rfl ?_
  refine zv_getR C dX4_coverYear_79 f_X4_33 hc.1 rfl hc.2.2.2.2.2.2.2.2.2.2.2.2.2.2.2.2 ?_
  refine zv_alen C dX4_coverYear_82 hc.2.2.2.2.2.2.2.2.1 rfl (by decide) ?_
  refine zv_icmp_ge C 97 dX4_coverYear_83 rfl (fun h83 => absurd h83 (by omega)) (fun h83 => ?_)
  refine zv_aload_n C dX4_coverYear_86 rfl rfl ?_
  refine zv_getR C dX4_coverYear_87 f_X4_33 hc.1 rfl hc.2.2.2.2.2.2.2.2.2.2.2.2.2.2.2.2 ?_
  refine zv_iload_n C dX4_coverYear_90 rfl ?_
  refine zv_dup2 C dX4_coverYear_91 rfl rfl ?_
  refine zv_iaload C dX4_coverYear_92 hc.2.2.2.2.2.2.2.2.1 ⟨by omega, by omega⟩ ?_
  try simp (disch := omega) only [zrow_eq, zrow_ne, zsA_eq, zsA_ne, zsF_eq, zsF_ne]
  refine zv_iload C dX4_coverYear_93 rfl ?_
  refine zv_iadd C dX4_coverYear_95 ⟨by omega, by omega⟩ ?_
  refine zv_iastore C dX4_coverYear_96 hc.2.2.2.2.2.2.2.2.1 ⟨by omega, by omega⟩ ?_
  rw [zrow_set]
  have l5 : 0 ≤ zu1 L1 lapse (L1 lapse + (AI 8 t - mm)) t ∧ zu1 L1 lapse (L1 lapse + (AI 8 t - mm)) t ≤ 303000000 := by
    unfold zu1
    split <;> omega
  refine zv_aload_n C dX4_coverYear_97 rfl rfl ?_
  refine zv_dup C dX4_coverYear_98 rfl ?_
  refine zv_getI C dX4_coverYear_99 f_X4_70 hc.1 rfl ?_
  refine zv_iload C dX4_coverYear_102 rfl ?_
  refine zv_iload_n C dX4_coverYear_104 rfl ?_
  refine zv_isub C dX4_coverYear_105 ⟨by omega, by omega⟩ ?_
  refine zv_aload_n C dX4_coverYear_106 rfl rfl ?_
  refine zv_getR C dX4_coverYear_107 f_X4_33 hc.1 rfl hc.2.2.2.2.2.2.2.2.2.2.2.2.2.2.2.2 ?_
  refine zv_iload_n C dX4_coverYear_110 rfl ?_
  refine zv_iaload C dX4_coverYear_111 hc.2.2.2.2.2.2.2.2.1 ⟨by omega, by omega⟩ ?_
  try simp (disch := omega) only [zrow_eq, zrow_ne, zsA_eq, zsA_ne, zsF_eq, zsF_ne]
  refine zv_isub C dX4_coverYear_112 ⟨by omega, by omega⟩ ?_
  refine zv_iadd C dX4_coverYear_113 ⟨by omega, by omega⟩ ?_
  refine zv_putI C dX4_coverYear_114 f_X4_70 hc.1 rfl ?_
  refine zv_aload_n C dX4_coverYear_117 rfl rfl ?_
  refine zv_getR C dX4_coverYear_118 f_X4_27 hc.1 rfl hc.2.2.2.2.2.2.2.2.2.2.2.2.2.2.1 ?_
  refine zv_iload_n C dX4_coverYear_121 rfl ?_
  refine zv_aload_n C dX4_coverYear_122 rfl rfl ?_
  refine zv_getI C dX4_coverYear_123 f_X4_70 hc.1 rfl ?_
  try simp (disch := omega) only [zsF_eq, zsF_ne]
  try simp (disch := omega) only [zrow_eq, zrow_ne, zsA_eq, zsA_ne, zsF_eq, zsF_ne]
  refine zv_iastore C dX4_coverYear_126 hc.2.2.2.2.2.2.1 ⟨by omega, by omega⟩ ?_
  refine zv_return C dX4_coverYear_127 rfl rfl rfl ?_
  exact hp L1 h1 h2
