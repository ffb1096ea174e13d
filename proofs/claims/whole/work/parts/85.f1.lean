set_option maxRecDepth 20000 in
theorem s_X3_net {T : zTt} {FR : zFR} {AR : zAR} {FI : zFI} {AI : zAI} {Post : zPost} {K : Nat} (hk : kLay T FR K) (g0 : 0 ≤ AI (K + 1) 0 ∧ AI (K + 1) 0 ≤ 150000000) (g1 : 0 ≤ AI (K + 1) 1 ∧ AI (K + 1) 1 ≤ 150000000) (hp : Post (zI (AI (K + 1) 1 - AI (K + 1) 0)) T FR AR FI AI) : zMet M_X3_net [zR K] T FR AR FI AI Post := by
  refine zMet.of [some (zR K)] rfl rfl rfl (fun G C => ?_)
  refine zv_aload_n C dX3_net_0 rfl rfl ?_
  refine zv_getR C dX3_net_1 f_X3_11 hk.1 rfl hk.2.2.2.2.1 ?_
  refine zv_iconst C dX3_net_4 rfl ?_
  refine zv_iaload C dX3_net_5 hk.2.1 ⟨by omega, by omega⟩ ?_
  refine zv_aload_n C dX3_net_6 rfl rfl ?_
  refine zv_getR C dX3_net_7 f_X3_11 hk.1 rfl hk.2.2.2.2.1 ?_
  refine zv_iconst C dX3_net_10 rfl ?_
  refine zv_iaload C dX3_net_11 hk.2.1 ⟨by omega, by omega⟩ ?_
  refine zv_isub C dX3_net_12 ⟨by omega, by omega⟩ ?_
  refine zv_ireturn C dX3_net_13 rfl rfl rfl rfl ?_
  exact hp
set_option maxRecDepth 20000 in
theorem s_X3_fill0 {T : zTt} {FR : zFR} {AR : zAR} {FI : zFI} {AI : zAI} {Post : zPost} {K : Nat} {N : Int → Int} {nI nL : Nat} {o : Int}  (hk : kLay T FR K) (hc : cLay T FR) (hW : mW N nI nL) (hv : cV AI FI N nI nL o (-1) 0) (g0 : 0 ≤ o) (g1 : o < 3) (gK : 200 ≤ K) (hp : Post (zI 0) T FR AR FI (zsA (zsA (zsA (zsA (zsA (zsA (zcpA (zcpA AI 6 (K + 2) 0 0 40) 10 (K + 3) 0 0 40) (K + 1) 0 (mLi N nI o)) (K + 1) 1 (mAs N nI nL o (-1) 0)) (K + 1) 2 (mUn N nI nL o (-1) 0)) (K + 1) 3 (mAs N nI nL o (-1) 0 - mLi N nI o - 0)) (K + 1) 4 (0 - 0)) (K + 1) 5 (mAs N nI nL o (-1) 0 - mLi N nI o - 0 - (0 - 0)))) : zMet M_X3_fill [zR K, zR 5, zP none] T FR AR FI AI Post := by
  refine zMet.of [some (zR K), some (zR 5), some (zP none), none, none] rfl rfl rfl (fun G C => ?_)
  have lb := mLi_b hW g0 g1
  have ab := mAs_b hW (yr := -1) (more := 0) g0 g1 (by omega) (by omega)
  have ub := mUn_b hW (yr := -1) (more := 0) g0 g1 (by omega) (by omega)
  refine zv_aload_n C dX3_fill_0 rfl rfl ?_
  refine zv_getR C dX3_fill_1 f_X3_21 hc.1 rfl hc.2.2.2.2.2.2.2.2.2.1 ?_
  refine zv_iconst C dX3_fill_4 rfl ?_
  refine zv_aload_n C dX3_fill_5 rfl rfl ?_
  refine zv_getR C dX3_fill_6 f_X3_15 hk.1 rfl hk.2.2.2.2.2.1 ?_
  refine zv_iconst C dX3_fill_9 rfl ?_
  refine zv_bipush C dX3_fill_10 rfl ?_
  refine zv_copyI C dX3_fill_12 l_X3_24 nat_copy st_copy ini_System (Nat.le_of_ble_eq_true rfl) (Nat.le_of_ble_eq_true rfl) hc.2.1 hk.2.2.1 (by omega) (by omega) (by omega) (by omega) (by omega) (by omega) ?_
  refine zv_aload_n C dX3_fill_15 rfl rfl ?_
  refine zv_getR C dX3_fill_16 f_X3_30 hc.1 rfl hc.2.2.2.2.2.2.2.2.2.2.2.2.2.1 ?_
  refine zv_iconst C dX3_fill_19 rfl ?_
  refine zv_aload_n C dX3_fill_20 rfl rfl ?_
  refine zv_getR C dX3_fill_21 f_X3_18 hk.1 rfl hk.2.2.2.2.2.2 ?_
  refine zv_iconst C dX3_fill_24 rfl ?_
  refine zv_bipush C dX3_fill_25 rfl ?_
  refine zv_copyI C dX3_fill_27 l_X3_24 nat_copy st_copy ini_System (Nat.le_of_ble_eq_true rfl) (Nat.le_of_ble_eq_true rfl) hc.2.2.2.2.2.1 hk.2.2.2.1 (by omega) (by omega) (by omega) (by omega) (by omega) (by omega) ?_
  refine zv_aload_n C dX3_fill_30 rfl rfl ?_
  refine zv_getR C dX3_fill_31 f_X3_11 hk.1 rfl hk.2.2.2.2.1 ?_
  refine zv_iconst C dX3_fill_34 rfl ?_
  refine zv_aload_n C dX3_fill_35 rfl rfl ?_
  refine zv_cVi0_0 C dX3_fill_36 k_X4_liability l_X3_31 hc.1 rfl ⟨Nat.le_of_ble_eq_true rfl, Nat.le_of_ble_eq_true rfl⟩ ⟨rfl, rfl⟩ ⟨Nat.le_of_ble_eq_true rfl, Nat.le_of_ble_eq_true rfl⟩ rfl rfl ?_
  refine s_X4_liability hc hW (fun t a b => by have q := hv.r t a b; simp (disch := omega) only [zcpA_ne, zsA_neF]; exact q) g0 g1 (by omega) (by omega) ?_
  refine zv_iastore C dX3_fill_39 hk.2.1 ⟨by omega, by omega⟩ ?_
  refine zv_aload_n C dX3_fill_40 rfl rfl ?_
  refine zv_getR C dX3_fill_41 f_X3_11 hk.1 rfl hk.2.2.2.2.1 ?_
  refine zv_iconst C dX3_fill_44 rfl ?_
  refine zv_aload_n C dX3_fill_45 rfl rfl ?_
  refine zv_cVi0_0 C dX3_fill_46 k_X4_asset l_X3_35 hc.1 rfl ⟨Nat.le_of_ble_eq_true rfl, Nat.le_of_ble_eq_true rfl⟩ ⟨rfl, rfl⟩ ⟨Nat.le_of_ble_eq_true rfl, Nat.le_of_ble_eq_true rfl⟩ rfl rfl ?_
  refine s_X4_asset hc hW (fun t a b => by have q := hv.r t a b; simp (disch := omega) only [zcpA_ne, zsA_neF]; exact q) g0 g1 (by omega) (by omega) ?_
  refine zv_iastore C dX3_fill_49 hk.2.1 ⟨by omega, by omega⟩ ?_
  refine zv_aload_n C dX3_fill_50 rfl rfl ?_
  refine zv_getR C dX3_fill_51 f_X3_11 hk.1 rfl hk.2.2.2.2.1 ?_
  refine zv_iconst C dX3_fill_54 rfl ?_
  refine zv_aload_n C dX3_fill_55 rfl rfl ?_
  refine zv_cVi0_0 C dX3_fill_56 k_X4_unrecognised l_X3_38 hc.1 rfl ⟨Nat.le_of_ble_eq_true rfl, Nat.le_of_ble_eq_true rfl⟩ ⟨rfl, rfl⟩ ⟨Nat.le_of_ble_eq_true rfl, Nat.le_of_ble_eq_true rfl⟩ rfl rfl ?_
  refine s_X4_unrecognised hc ?_
  rw [hv.2.2]
  refine zv_iastore C dX3_fill_59 hk.2.1 ⟨by omega, by omega⟩ ?_
  refine zv_aload_n C dX3_fill_60 rfl rfl ?_
  refine zv_ifnonnull C 68 dX3_fill_61 rfl (fun a h => by cases h) (fun _ => ?_)
  refine zv_iconst C dX3_fill_64 rfl ?_
  refine zv_goto C 72 dX3_fill_65 rfl ?_
  refine zv_istore_3 C dX3_fill_72 rfl rfl ?_
  refine zv_aload_n C dX3_fill_73 rfl rfl ?_
  refine zv_ifnonnull C 81 dX3_fill_74 rfl (fun a h => by cases h) (fun _ => ?_)
  refine zv_iconst C dX3_fill_77 rfl ?_
  refine zv_goto C 98 dX3_fill_78 rfl ?_
  refine zv_istore_4 C dX3_fill_98 rfl rfl ?_
  refine zv_aload_n C dX3_fill_100 rfl rfl ?_
  refine zv_getR C dX3_fill_101 f_X3_11 hk.1 rfl hk.2.2.2.2.1 ?_
  refine zv_iconst C dX3_fill_104 rfl ?_
  refine zv_aload_n C dX3_fill_105 rfl rfl ?_
  refine zv_cVi0_0 C dX3_fill_106 k_X3_net l_X3_41 hk.1 rfl ⟨Nat.le_of_ble_eq_true rfl, Nat.le_of_ble_eq_true rfl⟩ ⟨rfl, rfl⟩ ⟨Nat.le_of_ble_eq_true rfl, Nat.le_of_ble_eq_true rfl⟩ rfl rfl ?_
  refine s_X3_net hk (by simp (disch := omega) only [zsA_eq, zsA_nj]; omega) (by simp (disch := omega) only [zsA_eq, zsA_nj]; omega) ?_
  simp (disch := omega) only [zsA_eq, zsA_nj]
  refine zv_iload_n C dX3_fill_109 rfl ?_
  refine zv_isub C dX3_fill_110 ⟨by omega, by omega⟩ ?_
  refine zv_iastore C dX3_fill_111 hk.2.1 ⟨by omega, by omega⟩ ?_
  refine zv_aload_n C dX3_fill_112 rfl rfl ?_
  refine zv_getR C dX3_fill_113 f_X3_11 hk.1 rfl hk.2.2.2.2.1 ?_
  refine zv_iconst C dX3_fill_116 rfl ?_
  refine zv_iload C dX3_fill_117 rfl ?_
  refine zv_iload_n C dX3_fill_119 rfl ?_
  refine zv_isub C dX3_fill_120 ⟨by omega, by omega⟩ ?_
  refine zv_iastore C dX3_fill_121 hk.2.1 ⟨by omega, by omega⟩ ?_
  refine zv_aload_n C dX3_fill_122 rfl rfl ?_
  refine zv_getR C dX3_fill_123 f_X3_11 hk.1 rfl hk.2.2.2.2.1 ?_
  refine zv_iconst C dX3_fill_126 rfl ?_
  refine zv_aload_n C dX3_fill_127 rfl rfl ?_
  refine zv_getR C dX3_fill_128 f_X3_11 hk.1 rfl hk.2.2.2.2.1 ?_
  refine zv_iconst C dX3_fill_131 rfl ?_
  refine zv_iaload C dX3_fill_132 hk.2.1 ⟨by omega, by omega⟩ ?_
  try simp (disch := omega) only [zsA_eq, zsA_ne, zsA_nj, zcpA_ne]
  refine zv_aload_n C dX3_fill_133 rfl rfl ?_
  refine zv_getR C dX3_fill_134 f_X3_11 hk.1 rfl hk.2.2.2.2.1 ?_
  refine zv_iconst C dX3_fill_137 rfl ?_
  refine zv_iaload C dX3_fill_138 hk.2.1 ⟨by omega, by omega⟩ ?_
  try simp (disch := omega) only [zsA_eq, zsA_ne, zsA_nj, zcpA_ne]
  refine zv_isub C dX3_fill_139 ⟨by omega, by omega⟩ ?_
  refine zv_iastore C dX3_fill_140 hk.2.1 ⟨by omega, by omega⟩ ?_
  refine zv_return C dX3_fill_141 rfl rfl rfl ?_
  exact hp
set_option maxRecDepth 20000 in
theorem s_X3_fill1 {T : zTt} {FR : zFR} {AR : zAR} {FI : zFI} {AI : zAI} {Post : zPost} {K H : Nat} {N : Int → Int} {nI nL : Nat} {o : Int}  (hk : kLay T FR K) (hc : cLay T FR) (hW : mW N nI nL) (hv : cV AI FI N nI nL o (-1) 0) (g0 : 0 ≤ o) (g1 : o < 3) (gK : 200 ≤ K) (hk2 : kLay T FR H) (gH : 200 ≤ H) (gd : K + 4 ≤ H ∨ H + 4 ≤ K) (h0 : 0 ≤ AI (H + 1) 0 ∧ AI (H + 1) 0 ≤ 150000000) (h1 : 0 ≤ AI (H + 1) 1 ∧ AI (H + 1) 1 ≤ 150000000) (hS : ∀ j : Int, 0 ≤ j → j < 40 → (0 ≤ AI (H + 2) j ∧ AI (H + 2) j ≤ 4000000) ∧ (0 ≤ AI (H + 3) j ∧ AI (H + 3) j ≤ 4000000)) (hp : Post (zI 0) T FR AR FI (zsA (zsA (zsA (zsA (zsA (zsA (zcpA (zcpA AI 6 (K + 2) 0 0 40) 10 (K + 3) 0 0 40) (K + 1) 0 (mLi N nI o)) (K + 1) 1 (mAs N nI nL o (-1) 0)) (K + 1) 2 (mUn N nI nL o (-1) 0)) (K + 1) 3 (mAs N nI nL o (-1) 0 - mLi N nI o - (AI (H + 1) 1 - AI (H + 1) 0))) (K + 1) 4 ((zS (fun i => AI (H + 3) i * AI 12 i / 1000) 40 - zS (fun i => AI (H + 2) i * AI 12 i / 1000) 40) - (AI (H + 1) 1 - AI (H + 1) 0))) (K + 1) 5 (mAs N nI nL o (-1) 0 - mLi N nI o - (AI (H + 1) 1 - AI (H + 1) 0) - ((zS (fun i => AI (H + 3) i * AI 12 i / 1000) 40 - zS (fun i => AI (H + 2) i * AI 12 i / 1000) 40) - (AI (H + 1) 1 - AI (H + 1) 0))))) : zMet M_X3_fill [zR K, zR 5, zR H] T FR AR FI AI Post := by
  refine zMet.of [some (zR K), some (zR 5), some (zR H), none, none] rfl rfl rfl (fun G C => ?_)
  have lb := mLi_b hW g0 g1
  have ab := mAs_b hW (yr := -1) (more := 0) g0 g1 (by omega) (by omega)
  have ub := mUn_b hW (yr := -1) (more := 0) g0 g1 (by omega) (by omega)
  have tb : ∀ s : Nat, (∀ j : Int, 0 ≤ j → j < 40 → 0 ≤ AI s j ∧ AI s j ≤ 4000000) → 0 ≤ zS (fun i => AI s i * AI 12 i / 1000) 40 ∧ zS (fun i => AI s i * AI 12 i / 1000) 40 ≤ 3600000 * 40 := fun s hs => by
    have q : ∀ j : Int, 0 ≤ j → j < 40 → 0 ≤ AI s j * AI 12 j / 1000 ∧ AI s j * AI 12 j / 1000 ≤ 3600000 := fun j a b => by
      have r := (cR_b hW hv.r g0 g1 (by omega) (by omega) j a b).2.2
      have z := hs j a b
      exact ztx_b z.1 z.2 r.1 r.2 (by omega)
    exact ⟨zS_nn (f := fun i => AI s i * AI 12 i / 1000) 40 (fun i a b => (q i a (by omega)).1), zS_ub (f := fun i => AI s i * AI 12 i / 1000) (c := 3600000) 40 (fun i a b => (q i a (by omega)).2)⟩
  have t3 := tb (H + 3) (fun j a b => (hS j a b).2)
  have t2 := tb (H + 2) (fun j a b => (hS j a b).1)
  refine zv_aload_n C dX3_fill_0 rfl rfl ?_
  refine zv_getR C dX3_fill_1 f_X3_21 hc.1 rfl hc.2.2.2.2.2.2.2.2.2.1 ?_
  refine zv_iconst C dX3_fill_4 rfl ?_
  refine zv_aload_n C dX3_fill_5 rfl rfl ?_
  refine zv_getR C dX3_fill_6 f_X3_15 hk.1 rfl hk.2.2.2.2.2.1 ?_
  refine zv_iconst C dX3_fill_9 rfl ?_
  refine zv_bipush C dX3_fill_10 rfl ?_
  refine zv_copyI C dX3_fill_12 l_X3_24 nat_copy st_copy ini_System (Nat.le_of_ble_eq_true rfl) (Nat.le_of_ble_eq_true rfl) hc.2.1 hk.2.2.1 (by omega) (by omega) (by omega) (by omega) (by omega) (by omega) ?_
  refine zv_aload_n C dX3_fill_15 rfl rfl ?_
  refine zv_getR C dX3_fill_16 f_X3_30 hc.1 rfl hc.2.2.2.2.2.2.2.2.2.2.2.2.2.1 ?_
  refine zv_iconst C dX3_fill_19 rfl ?_
  refine zv_aload_n C dX3_fill_20 rfl rfl ?_
  refine zv_getR C dX3_fill_21 f_X3_18 hk.1 rfl hk.2.2.2.2.2.2 ?_
  refine zv_iconst C dX3_fill_24 rfl ?_
  refine zv_bipush C dX3_fill_25 rfl ?_
  refine zv_copyI C dX3_fill_27 l_X3_24 nat_copy st_copy ini_System (Nat.le_of_ble_eq_true rfl) (Nat.le_of_ble_eq_true rfl) hc.2.2.2.2.2.1 hk.2.2.2.1 (by omega) (by omega) (by omega) (by omega) (by omega) (by omega) ?_
  refine zv_aload_n C dX3_fill_30 rfl rfl ?_
  refine zv_getR C dX3_fill_31 f_X3_11 hk.1 rfl hk.2.2.2.2.1 ?_
  refine zv_iconst C dX3_fill_34 rfl ?_
  refine zv_aload_n C dX3_fill_35 rfl rfl ?_
  refine zv_cVi0_0 C dX3_fill_36 k_X4_liability l_X3_31 hc.1 rfl ⟨Nat.le_of_ble_eq_true rfl, Nat.le_of_ble_eq_true rfl⟩ ⟨rfl, rfl⟩ ⟨Nat.le_of_ble_eq_true rfl, Nat.le_of_ble_eq_true rfl⟩ rfl rfl ?_
  refine s_X4_liability hc hW (fun t a b => by have q := hv.r t a b; simp (disch := omega) only [zcpA_ne, zsA_neF]; exact q) g0 g1 (by omega) (by omega) ?_
  refine zv_iastore C dX3_fill_39 hk.2.1 ⟨by omega, by omega⟩ ?_
  refine zv_aload_n C dX3_fill_40 rfl rfl ?_
  refine zv_getR C dX3_fill_41 f_X3_11 hk.1 rfl hk.2.2.2.2.1 ?_
  refine zv_iconst C dX3_fill_44 rfl ?_
  refine zv_aload_n C dX3_fill_45 rfl rfl ?_
  refine zv_cVi0_0 C dX3_fill_46 k_X4_asset l_X3_35 hc.1 rfl ⟨Nat.le_of_ble_eq_true rfl, Nat.le_of_ble_eq_true rfl⟩ ⟨rfl, rfl⟩ ⟨Nat.le_of_ble_eq_true rfl, Nat.le_of_ble_eq_true rfl⟩ rfl rfl ?_
  refine s_X4_asset hc hW (fun t a b => by have q := hv.r t a b; simp (disch := omega) only [zcpA_ne, zsA_neF]; exact q) g0 g1 (by omega) (by omega) ?_
  refine zv_iastore C dX3_fill_49 hk.2.1 ⟨by omega, by omega⟩ ?_
  refine zv_aload_n C dX3_fill_50 rfl rfl ?_
  refine zv_getR C dX3_fill_51 f_X3_11 hk.1 rfl hk.2.2.2.2.1 ?_
  refine zv_iconst C dX3_fill_54 rfl ?_
  refine zv_aload_n C dX3_fill_55 rfl rfl ?_
  refine zv_cVi0_0 C dX3_fill_56 k_X4_unrecognised l_X3_38 hc.1 rfl ⟨Nat.le_of_ble_eq_true rfl, Nat.le_of_ble_eq_true rfl⟩ ⟨rfl, rfl⟩ ⟨Nat.le_of_ble_eq_true rfl, Nat.le_of_ble_eq_true rfl⟩ rfl rfl ?_
  refine s_X4_unrecognised hc ?_
  rw [hv.2.2]
  refine zv_iastore C dX3_fill_59 hk.2.1 ⟨by omega, by omega⟩ ?_
  refine zv_aload_n C dX3_fill_60 rfl rfl ?_
  refine zv_ifnonnull C 68 dX3_fill_61 rfl (fun _ _ => ?_) (fun h => by cases h)
  refine zv_aload_n C dX3_fill_68 rfl rfl ?_
  refine zv_cVi0_0 C dX3_fill_69 k_X3_net l_X3_41 hk2.1 rfl ⟨Nat.le_of_ble_eq_true rfl, Nat.le_of_ble_eq_true rfl⟩ ⟨rfl, rfl⟩ ⟨Nat.le_of_ble_eq_true rfl, Nat.le_of_ble_eq_true rfl⟩ rfl rfl ?_
  refine s_X3_net hk2 (by simp (disch := omega) only [zsA_ne, zcpA_ne]; exact h0) (by simp (disch := omega) only [zsA_ne, zcpA_ne]; exact h1) ?_
  simp (disch := omega) only [zsA_ne, zcpA_ne]
  refine zv_istore_3 C dX3_fill_72 rfl rfl ?_
  refine zv_aload_n C dX3_fill_73 rfl rfl ?_
  refine zv_ifnonnull C 81 dX3_fill_74 rfl (fun _ _ => ?_) (fun h => by cases h)
  refine zv_aload_n C dX3_fill_81 rfl rfl ?_
  refine zv_aload_n C dX3_fill_82 rfl rfl ?_
  refine zv_getR C dX3_fill_83 f_X3_18 hk2.1 rfl hk2.2.2.2.2.2.2 ?_
  refine zv_cVi0_1 C dX3_fill_86 k_X4_taxOn l_X3_44 hc.1 rfl ⟨Nat.le_of_ble_eq_true rfl, Nat.le_of_ble_eq_true rfl⟩ ⟨rfl, rfl⟩ ⟨Nat.le_of_ble_eq_true rfl, Nat.le_of_ble_eq_true rfl⟩ rfl rfl ?_
  refine s_X4_taxOn hc hk2.2.2.2.1 (fun j a b => by simp (disch := omega) only [zsA_ne, zcpA_ne]; exact ⟨(hS j a b).2, (cR_b hW hv.r g0 g1 (by omega) (by omega) j a b).2.2⟩) ?_
  simp (disch := omega) only [zsA_neF, zcpA_ne]
  refine zv_aload_n C dX3_fill_89 rfl rfl ?_
  refine zv_aload_n C dX3_fill_90 rfl rfl ?_
  refine zv_getR C dX3_fill_91 f_X3_15 hk2.1 rfl hk2.2.2.2.2.2.1 ?_
  refine zv_cVi0_1 C dX3_fill_94 k_X4_taxOn l_X3_44 hc.1 rfl ⟨Nat.le_of_ble_eq_true rfl, Nat.le_of_ble_eq_true rfl⟩ ⟨rfl, rfl⟩ ⟨Nat.le_of_ble_eq_true rfl, Nat.le_of_ble_eq_true rfl⟩ rfl rfl ?_
  refine s_X4_taxOn hc hk2.2.2.1 (fun j a b => by simp (disch := omega) only [zsA_ne, zcpA_ne]; exact ⟨(hS j a b).1, (cR_b hW hv.r g0 g1 (by omega) (by omega) j a b).2.2⟩) ?_
  simp (disch := omega) only [zsA_neF, zcpA_ne]
  refine zv_isub C dX3_fill_97 ⟨by omega, by omega⟩ ?_
  refine zv_istore_4 C dX3_fill_98 rfl rfl ?_
  refine zv_aload_n C dX3_fill_100 rfl rfl ?_
  refine zv_getR C dX3_fill_101 f_X3_11 hk.1 rfl hk.2.2.2.2.1 ?_
  refine zv_iconst C dX3_fill_104 rfl ?_
  refine zv_aload_n C dX3_fill_105 rfl rfl ?_
  refine zv_cVi0_0 C dX3_fill_106 k_X3_net l_X3_41 hk.1 rfl ⟨Nat.le_of_ble_eq_true rfl, Nat.le_of_ble_eq_true rfl⟩ ⟨rfl, rfl⟩ ⟨Nat.le_of_ble_eq_true rfl, Nat.le_of_ble_eq_true rfl⟩ rfl rfl ?_
  refine s_X3_net hk (by simp (disch := omega) only [zsA_eq, zsA_nj]; omega) (by simp (disch := omega) only [zsA_eq, zsA_nj]; omega) ?_
  simp (disch := omega) only [zsA_eq, zsA_nj]
  refine zv_iload_n C dX3_fill_109 rfl ?_
  refine zv_isub C dX3_fill_110 ⟨by omega, by omega⟩ ?_
  refine zv_iastore C dX3_fill_111 hk.2.1 ⟨by omega, by omega⟩ ?_
  refine zv_aload_n C dX3_fill_112 rfl rfl ?_
  refine zv_getR C dX3_fill_113 f_X3_11 hk.1 rfl hk.2.2.2.2.1 ?_
  refine zv_iconst C dX3_fill_116 rfl ?_
  refine zv_iload C dX3_fill_117 rfl ?_
  refine zv_iload_n C dX3_fill_119 rfl ?_
  refine zv_isub C dX3_fill_120 ⟨by omega, by omega⟩ ?_
  refine zv_iastore C dX3_fill_121 hk.2.1 ⟨by omega, by omega⟩ ?_
  refine zv_aload_n C dX3_fill_122 rfl rfl ?_
  refine zv_getR C dX3_fill_123 f_X3_11 hk.1 rfl hk.2.2.2.2.1 ?_
  refine zv_iconst C dX3_fill_126 rfl ?_
  refine zv_aload_n C dX3_fill_127 rfl rfl ?_
  refine zv_getR C dX3_fill_128 f_X3_11 hk.1 rfl hk.2.2.2.2.1 ?_
  refine zv_iconst C dX3_fill_131 rfl ?_
  refine zv_iaload C dX3_fill_132 hk.2.1 ⟨by omega, by omega⟩ ?_
  try simp (disch := omega) only [zsA_eq, zsA_ne, zsA_nj, zcpA_ne]
  refine zv_aload_n C dX3_fill_133 rfl rfl ?_
  refine zv_getR C dX3_fill_134 f_X3_11 hk.1 rfl hk.2.2.2.2.1 ?_
  refine zv_iconst C dX3_fill_137 rfl ?_
  refine zv_iaload C dX3_fill_138 hk.2.1 ⟨by omega, by omega⟩ ?_
  try simp (disch := omega) only [zsA_eq, zsA_ne, zsA_nj, zcpA_ne]
  refine zv_isub C dX3_fill_139 ⟨by omega, by omega⟩ ?_
  refine zv_iastore C dX3_fill_140 hk.2.1 ⟨by omega, by omega⟩ ?_
  refine zv_return C dX3_fill_141 rfl rfl rfl ?_
  exact hp
