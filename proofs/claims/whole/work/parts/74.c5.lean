set_option maxRecDepth 20000 in
theorem s_X4_liability {T : zTt} {FR : zFR} {AR : zAR} {FI : zFI} {AI : zAI} {Post : zPost} {N : Int → Int} {nI nL : Nat} {o my more : Int} (hc : cLay T FR) (hW : mW N nI nL) (hR : cR AI N nI nL o my more) (g0 : 0 ≤ o) (g1 : o < 3) (g2 : 0 ≤ more) (g3 : more ≤ 99999) (hp : Post (zI (mLi N nI o)) T FR AR FI AI) : zMet M_X4_liability [zR 5] T FR AR FI AI Post := by
  refine zMet.of [some (zR 5)] rfl rfl rfl (fun G C => ?_)
  refine zv_aload_n C dX4_liability_0 rfl rfl ?_
  refine zv_aload_n C dX4_liability_1 rfl rfl ?_
  refine zv_getR C dX4_liability_2 f_X4_9 hc.1 rfl hc.2.2.2.2.2.2.2.2.2.1 ?_
  refine zv_cVi0_1 C dX4_liability_5 k_X4_taxOn l_X4_99 hc.1 rfl ⟨Nat.le_of_ble_eq_true rfl, Nat.le_of_ble_eq_true rfl⟩ ⟨rfl, rfl⟩ ⟨Nat.le_of_ble_eq_true rfl, Nat.le_of_ble_eq_true rfl⟩ rfl rfl ?_
  refine s_X4_taxOn hc hc.2.1 (fun j a b => ⟨(cR_b hW hR g0 g1 g2 g3 j a b).1, (cR_b hW hR g0 g1 g2 g3 j a b).2.2⟩) ?_
  rw [cR_li hW hR]
  refine zv_ireturn C dX4_liability_8 rfl rfl rfl rfl ?_
  exact hp
set_option maxRecDepth 20000 in
theorem s_X4_asset {T : zTt} {FR : zFR} {AR : zAR} {FI : zFI} {AI : zAI} {Post : zPost} {N : Int → Int} {nI nL : Nat} {o my more : Int} (hc : cLay T FR) (hW : mW N nI nL) (hR : cR AI N nI nL o my more) (g0 : 0 ≤ o) (g1 : o < 3) (g2 : 0 ≤ more) (g3 : more ≤ 99999) (hp : Post (zI (mAs N nI nL o my more)) T FR AR FI AI) : zMet M_X4_asset [zR 5] T FR AR FI AI Post := by
  refine zMet.of [some (zR 5)] rfl rfl rfl (fun G C => ?_)
  refine zv_aload_n C dX4_asset_0 rfl rfl ?_
  refine zv_aload_n C dX4_asset_1 rfl rfl ?_
  refine zv_getR C dX4_asset_2 f_X4_24 hc.1 rfl hc.2.2.2.2.2.2.2.2.2.2.2.2.2.1 ?_
  refine zv_cVi0_1 C dX4_asset_5 k_X4_taxOn l_X4_99 hc.1 rfl ⟨Nat.le_of_ble_eq_true rfl, Nat.le_of_ble_eq_true rfl⟩ ⟨rfl, rfl⟩ ⟨Nat.le_of_ble_eq_true rfl, Nat.le_of_ble_eq_true rfl⟩ rfl rfl ?_
  refine s_X4_taxOn hc hc.2.2.2.2.2.1 (fun j a b => ⟨(cR_b hW hR g0 g1 g2 g3 j a b).2.1, (cR_b hW hR g0 g1 g2 g3 j a b).2.2⟩) ?_
  rw [cR_as hW hR]
  refine zv_ireturn C dX4_asset_8 rfl rfl rfl rfl ?_
  exact hp
set_option maxRecDepth 20000 in
theorem s_X4_net {T : zTt} {FR : zFR} {AR : zAR} {FI : zFI} {AI : zAI} {Post : zPost} {N : Int → Int} {nI nL : Nat} {o my more : Int} (hc : cLay T FR) (hW : mW N nI nL) (hR : cR AI N nI nL o my more) (g0 : 0 ≤ o) (g1 : o < 3) (g2 : 0 ≤ more) (g3 : more ≤ 99999) (hp : Post (zI (mAs N nI nL o my more - mLi N nI o)) T FR AR FI AI) : zMet M_X4_net [zR 5] T FR AR FI AI Post := by
  refine zMet.of [some (zR 5)] rfl rfl rfl (fun G C => ?_)
  have lb := mLi_b hW g0 g1
  have ab := mAs_b hW (yr := my) g0 g1 g2 g3
  refine zv_aload_n C dX4_net_0 rfl rfl ?_
  refine zv_cVi0_0 C dX4_net_1 k_X4_asset l_X4_103 hc.1 rfl ⟨Nat.le_of_ble_eq_true rfl, Nat.le_of_ble_eq_true rfl⟩ ⟨rfl, rfl⟩ ⟨Nat.le_of_ble_eq_true rfl, Nat.le_of_ble_eq_true rfl⟩ rfl rfl ?_
  refine s_X4_asset hc hW hR g0 g1 g2 g3 ?_
  refine zv_aload_n C dX4_net_4 rfl rfl ?_
  refine zv_cVi0_0 C dX4_net_5 k_X4_liability l_X4_107 hc.1 rfl ⟨Nat.le_of_ble_eq_true rfl, Nat.le_of_ble_eq_true rfl⟩ ⟨rfl, rfl⟩ ⟨Nat.le_of_ble_eq_true rfl, Nat.le_of_ble_eq_true rfl⟩ rfl rfl ?_
  refine s_X4_liability hc hW hR g0 g1 g2 g3 ?_
  refine zv_isub C dX4_net_8 ⟨by omega, by omega⟩ ?_
  refine zv_ireturn C dX4_net_9 rfl rfl rfl rfl ?_
  exact hp
set_option maxRecDepth 20000 in
theorem s_X4_unrecognised {T : zTt} {FR : zFR} {AR : zAR} {FI : zFI} {AI : zAI} {Post : zPost}  (hc : cLay T FR) (hp : Post (zI (FI 5 9)) T FR AR FI AI) : zMet M_X4_unrecognised [zR 5] T FR AR FI AI Post := by
  refine zMet.of [some (zR 5)] rfl rfl rfl (fun G C => ?_)
  refine zv_aload_n C dX4_unrecognised_0 rfl rfl ?_
  refine zv_getI C dX4_unrecognised_1 f_X4_76 hc.1 rfl ?_
  refine zv_ireturn C dX4_unrecognised_4 rfl rfl rfl rfl ?_
  exact hp
