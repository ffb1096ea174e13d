set_option maxRecDepth 20000 in
theorem s_X8_isEnough {T : zTt} {FR : zFR} {AR : zAR} {FI : zFI} {AI : zAI} {Post : zPost} {B D : Nat} {N : Int → Int} {nI nL : Nat} {o y more : Int} (hd : dLay T FR B D) (hc : cLay T FR) (hB : bLay T FR B) (hK : bk FI AI B N) (hW : mW N nI nL) (gB : 14 ≤ B) (hb : cB AI N nI o) (g0 : 0 ≤ o) (g1 : o < N 2) (g2 : 0 ≤ more) (g3 : more ≤ 99999) (h1 : ∀ (F : zFI) (A : zAI), cFr AI A FI F → cB A N nI o → enough N nI nL o y more → Post (zI 1) T FR AR F A) (h0 : ∀ (F : zFI) (A : zAI), cFr AI A FI F → cB A N nI o → ¬ enough N nI nL o y more → Post (zI 0) T FR AR F A) : zMet M_X8_isEnough [zR 0, zI o, zI y, zI more] T FR AR FI AI Post := by
  refine zMet.of [some (zR 0), some (zI o), some (zI y), some (zI more)] rfl rfl rfl (fun G C => ?_)
  obtain ⟨k0, k1, k2, k3, k4, k5, k6, k7, k8⟩ := id hK
  obtain ⟨w0, w1, w2, w3, w4, w5, w6, w7, w8, w9⟩ := id hW
  refine zv_aload_n C dX8_isEnough_0 rfl rfl ?_
  refine zv_getR C dX8_isEnough_1 f_X8_24 hd.1 rfl hd.2.2.2.2.2.2.2.2.2.2.1 ?_
  refine zv_aload_n C dX8_isEnough_4 rfl rfl ?_
  refine zv_getR C dX8_isEnough_5 f_X8_44 hd.1 rfl hd.2.2.2.2.2.2.2.2.2.2.2.2.2.1 ?_
  refine zv_iload_n C dX8_isEnough_8 rfl ?_
  refine zv_iload_n C dX8_isEnough_9 rfl ?_
  refine zv_iload_n C dX8_isEnough_10 rfl ?_
  refine zv_cVv0_4 C dX8_isEnough_11 k_X4_spread l_X8_257 hc.1 rfl ⟨Nat.le_of_ble_eq_true rfl, Nat.le_of_ble_eq_true rfl⟩ ⟨rfl, rfl⟩ ⟨Nat.le_of_ble_eq_true rfl, Nat.le_of_ble_eq_true rfl⟩ rfl rfl ?_
  refine s_X4_spread hc hB hK hW gB g0 (by omega) g2 g3 (fun t a b => ?_) (fun F1 A1 s hs hI => ?_)
  · have q := hb t (by omega) b
    rw [if_pos (by omega), if_pos (by omega)] at q
    exact ⟨q.1, q.2.1⟩
  have hv := cV_of hW hs hb hI
  refine zv_aload_n C dX8_isEnough_14 rfl rfl ?_
  refine zv_getR C dX8_isEnough_15 f_X8_24 hd.1 rfl hd.2.2.2.2.2.2.2.2.2.2.1 ?_
  refine zv_cVi0_0 C dX8_isEnough_18 k_X4_unrecognised l_X8_188 hc.1 rfl ⟨Nat.le_of_ble_eq_true rfl, Nat.le_of_ble_eq_true rfl⟩ ⟨rfl, rfl⟩ ⟨Nat.le_of_ble_eq_true rfl, Nat.le_of_ble_eq_true rfl⟩ rfl rfl ?_
  refine s_X4_unrecognised hc ?_
  rw [hv.1.2.2]
  refine zv_if_ne C 28 dX8_isEnough_21 rfl (fun h21 => ?_) (fun h21 => ?_)
  · refine zv_iconst C dX8_isEnough_28 rfl ?_
    refine zv_ireturn C dX8_isEnough_29 rfl rfl rfl rfl ?_
    exact h0 F1 A1 hv.2 hv.1.1 (by unfold enough; omega)
  · refine zv_iconst C dX8_isEnough_24 rfl ?_
    refine zv_goto C 29 dX8_isEnough_25 rfl ?_
    refine zv_ireturn C dX8_isEnough_29 rfl rfl rfl rfl ?_
    exact h1 F1 A1 hv.2 hv.1.1 (by unfold enough; omega)
set_option maxRecDepth 20000 in
theorem s_X8_leastProfitMore {T : zTt} {FR : zFR} {AR : zAR} {FI : zFI} {AI : zAI} {Post : zPost} {B D : Nat} {N : Int → Int} {nI nL : Nat} {o y : Int} (hd : dLay T FR B D) (hc : cLay T FR) (hB : bLay T FR B) (hK : bk FI AI B N) (hW : mW N nI nL) (gB : 14 ≤ B) (hb : cB AI N nI o) (g0 : 0 ≤ o) (g1 : o < N 2) (hn0 : ¬ enough N nI nL o y 0) (h2 : ¬ enough N nI nL o y 99999 → ∀ (F : zFI) (A : zAI), cFr AI A FI F → Post (zI (-2)) T FR AR F A) (hp : ∀ r : Int, 1 ≤ r → r ≤ 99999 → enough N nI nL o y r → ¬ enough N nI nL o y (r - 1) → ∀ (F : zFI) (A : zAI), cFr AI A FI F → Post (zI r) T FR AR F A) : zMet M_X8_leastProfitMore [zR 0, zI o, zI y] T FR AR FI AI Post := by
  refine zMet.of [some (zR 0), some (zI o), some (zI y), none, none, none, none] rfl rfl rfl (fun G C => ?_)
  obtain ⟨k0, k1, k2, k3, k4, k5, k6, k7, k8⟩ := id hK
  obtain ⟨w0, w1, w2, w3, w4, w5, w6, w7, w8, w9⟩ := id hW
  suffices lp : ∀ (m : Nat) (k lo hi : Int) (a6 : Option zVal) (F : zFI) (A : zAI), hi - lo ≤ ((2 ^ m : Nat) : Int) → 0 ≤ k → k + m ≤ 31 → 0 ≤ lo → lo < hi → hi ≤ 99999 → cFr AI A FI F → cB A N nI o → enough N nI nL o y hi → ¬ enough N nI nL o y lo → zV G 23 [some (zR 0), some (zI o), some (zI y), some (zI lo), some (zI hi), some (zI k), a6] [] T FR AR F A 0 0 from by
    refine zv_aload_n C dX8_leastProfitMore_0 rfl rfl ?_
    refine zv_iload_n C dX8_leastProfitMore_1 rfl ?_
    refine zv_iload_n C dX8_leastProfitMore_2 rfl ?_
    refine zv_ldc (x := 99999) C dX8_leastProfitMore_3 c_X8_205 rfl ?_
    refine zv_cVi0_3 C dX8_leastProfitMore_5 k_X8_isEnough l_X8_254 hd.1 rfl ⟨Nat.le_of_ble_eq_true rfl, Nat.le_of_ble_eq_true rfl⟩ ⟨rfl, rfl⟩ ⟨Nat.le_of_ble_eq_true rfl, Nat.le_of_ble_eq_true rfl⟩ rfl rfl ?_
    refine s_X8_isEnough hd hc hB hK hW gB hb g0 g1 (by omega) (by omega) (fun F2 A2 fr2 hb2 he => ?_) (fun F2 A2 fr2 hb2 he => ?_)
    · refine zv_if_ne C 14 dX8_leastProfitMore_8 rfl (fun _ => ?_) (fun h => absurd h (by omega))
      refine zv_iconst C dX8_leastProfitMore_14 rfl ?_
      refine zv_istore_3 C dX8_leastProfitMore_15 rfl rfl ?_
      refine zv_ldc (x := 99999) C dX8_leastProfitMore_16 c_X8_205 rfl ?_
      refine zv_istore_4 C dX8_leastProfitMore_18 rfl rfl ?_
      refine zv_iconst C dX8_leastProfitMore_20 rfl ?_
      refine zv_istore_5 C dX8_leastProfitMore_21 rfl rfl ?_
      exact lp 17 0 0 99999 none F2 A2 (by decide) (by omega) (by omega) (by omega) (by omega) (by omega) fr2 hb2 he hn0
    · refine zv_if_ne C 14 dX8_leastProfitMore_8 rfl (fun h => absurd h (by omega)) (fun _ => ?_)
      refine zv_bipush C dX8_leastProfitMore_11 rfl ?_
      refine zv_ireturn C dX8_leastProfitMore_13 rfl rfl rfl rfl ?_
      exact h2 he F2 A2 fr2
  intro m
  induction m with
  | zero =>
    intro k lo hi a6 F A hw hk hk2 h0 h1 h3 fr hb1 he hl
    have hw2 : hi - lo ≤ 1 := hw
    have e : lo = hi - 1 := by omega
    subst e
    refine zv_iload C dX8_leastProfitMore_23 rfl ?_
    refine zv_bipush C dX8_leastProfitMore_25 rfl ?_
    refine zv_icmp_ge C 73 dX8_leastProfitMore_27 rfl (fun h27 => absurd h27 (by omega)) (fun h27 => ?_)
    refine zv_iload C dX8_leastProfitMore_30 rfl ?_
    refine zv_iload_n C dX8_leastProfitMore_32 rfl ?_
    refine zv_isub C dX8_leastProfitMore_33 ⟨by omega, by omega⟩ ?_
    refine zv_iconst C dX8_leastProfitMore_34 rfl ?_
    refine zv_icmp_le C 73 dX8_leastProfitMore_35 rfl (fun h35 => ?_) (fun h35 => absurd h35 (by omega))
    refine zv_iload C dX8_leastProfitMore_73 rfl ?_
    refine zv_ireturn C dX8_leastProfitMore_75 rfl rfl rfl rfl ?_
    exact hp hi (by omega) (by omega) he hl F A fr
  | succ m ih =>
    intro k lo hi a6 F A hw hk hk2 h0 h1 h3 fr hb1 he0 hl
    have ep : ((2 ^ (m + 1) : Nat) : Int) = 2 * ((2 ^ m : Nat) : Int) := by
      rw [Nat.pow_succ]
      omega
    have hK2 := fr.bk hK gB
    refine zv_iload C dX8_leastProfitMore_23 rfl ?_
    refine zv_bipush C dX8_leastProfitMore_25 rfl ?_
    refine zv_icmp_ge C 73 dX8_leastProfitMore_27 rfl (fun h27 => absurd h27 (by omega)) (fun h27 => ?_)
    refine zv_iload C dX8_leastProfitMore_30 rfl ?_
    refine zv_iload_n C dX8_leastProfitMore_32 rfl ?_
    refine zv_isub C dX8_leastProfitMore_33 ⟨by omega, by omega⟩ ?_
    refine zv_iconst C dX8_leastProfitMore_34 rfl ?_
    refine zv_icmp_le C 73 dX8_leastProfitMore_35 rfl (fun h35 => ?_) (fun h35 => ?_)
    · refine zv_iload C dX8_leastProfitMore_73 rfl ?_
      refine zv_ireturn C dX8_leastProfitMore_75 rfl rfl rfl rfl ?_
      have e : lo = hi - 1 := by omega
      subst e
      exact hp hi (by omega) (by omega) he0 hl F A fr
    · refine zv_iload_n C dX8_leastProfitMore_38 rfl ?_
      refine zv_iload C dX8_leastProfitMore_39 rfl ?_
      refine zv_iadd C dX8_leastProfitMore_41 ⟨by omega, by omega⟩ ?_
      refine zv_iconst C dX8_leastProfitMore_42 rfl ?_
      refine zv_idiv C dX8_leastProfitMore_43 (by omega) (by omega) ?_
      refine zv_istore_6 C dX8_leastProfitMore_44 rfl rfl ?_
      refine zv_aload_n C dX8_leastProfitMore_46 rfl rfl ?_
      refine zv_iload_n C dX8_leastProfitMore_47 rfl ?_
      refine zv_iload_n C dX8_leastProfitMore_48 rfl ?_
      refine zv_iload C dX8_leastProfitMore_49 rfl ?_
      refine zv_cVi0_3 C dX8_leastProfitMore_51 k_X8_isEnough l_X8_254 hd.1 rfl ⟨Nat.le_of_ble_eq_true rfl, Nat.le_of_ble_eq_true rfl⟩ ⟨rfl, rfl⟩ ⟨Nat.le_of_ble_eq_true rfl, Nat.le_of_ble_eq_true rfl⟩ rfl rfl ?_
      refine s_X8_isEnough hd hc hB hK2 hW gB hb1 g0 g1 (by omega) (by omega) (fun F2 A2 fr2 hb2 he => ?_) (fun F2 A2 fr2 hb2 he => ?_)
      · refine zv_if_eq C 64 dX8_leastProfitMore_54 rfl (fun h => absurd h (by omega)) (fun _ => ?_)
        refine zv_iload C dX8_leastProfitMore_57 rfl ?_
        refine zv_istore_4 C dX8_leastProfitMore_59 rfl rfl ?_
        refine zv_goto C 67 dX8_leastProfitMore_61 rfl ?_
        refine zv_iinc_5 C dX8_leastProfitMore_67 rfl rfl ⟨by omega, by omega⟩ ?_
        refine zv_goto C 23 dX8_leastProfitMore_70 rfl ?_
        first
        | exact ih (k + 1) lo _ _ F2 A2 (by omega) (by omega) (by omega) (by omega) (by omega) (by omega) (fr.trans fr2) hb2 he hl
        | exact ih (k + 1) _ hi _ F2 A2 (by omega) (by omega) (by omega) (by omega) (by omega) (by omega) (fr.trans fr2) hb2 he0 he
      · refine zv_if_eq C 64 dX8_leastProfitMore_54 rfl (fun _ => ?_) (fun h => absurd h (by omega))
        refine zv_iload C dX8_leastProfitMore_64 rfl ?_
        refine zv_istore_3 C dX8_leastProfitMore_66 rfl rfl ?_
        refine zv_iinc_5 C dX8_leastProfitMore_67 rfl rfl ⟨by omega, by omega⟩ ?_
        refine zv_goto C 23 dX8_leastProfitMore_70 rfl ?_
        first
        | exact ih (k + 1) lo _ _ F2 A2 (by omega) (by omega) (by omega) (by omega) (by omega) (by omega) (fr.trans fr2) hb2 he hl
        | exact ih (k + 1) _ hi _ F2 A2 (by omega) (by omega) (by omega) (by omega) (by omega) (by omega) (fr.trans fr2) hb2 he0 he

set_option maxRecDepth 20000 in
theorem s_X8_needs {T : zTt} {FR : zFR} {AR : zAR} {FI : zFI} {AI : zAI} {Post : zPost} {B D : Nat} {N : Int → Int} {nI nL : Nat} {o y : Int} (hd : dLay T FR B D) (hc : cLay T FR) (hB : bLay T FR B) (hK : bk FI AI B N) (hW : mW N nI nL) (gB : 14 ≤ B) (hn : ¬ ((0 ≤ o ∧ o ≤ N 2 - 1) ∧ (N 0 + 1 ≤ y ∧ y ≤ 39)) → Post (zI (-1)) T FR AR FI AI) (hz : ((0 ≤ o ∧ o ≤ N 2 - 1) ∧ (N 0 + 1 ≤ y ∧ y ≤ 39)) → enough N nI nL o y 0 → ∀ (F : zFI) (A : zAI), cFr AI A FI F → Post (zI 0) T FR AR F A) (h2 : ((0 ≤ o ∧ o ≤ N 2 - 1) ∧ (N 0 + 1 ≤ y ∧ y ≤ 39)) → ¬ enough N nI nL o y 0 → ¬ enough N nI nL o y 99999 → ∀ (F : zFI) (A : zAI), cFr AI A FI F → Post (zI (-2)) T FR AR F A) (hp : ((0 ≤ o ∧ o ≤ N 2 - 1) ∧ (N 0 + 1 ≤ y ∧ y ≤ 39)) → ∀ r : Int, 1 ≤ r → r ≤ 99999 → enough N nI nL o y r → ¬ enough N nI nL o y (r - 1) → ∀ (F : zFI) (A : zAI), cFr AI A FI F → Post (zI r) T FR AR F A) : zMet M_X8_needs [zR 0, zI o, zI y] T FR AR FI AI Post := by
  refine zMet.of [some (zR 0), some (zI o), some (zI y)] rfl rfl rfl (fun G C => ?_)
  obtain ⟨k0, k1, k2, k3, k4, k5, k6, k7, k8⟩ := id hK
  obtain ⟨w0, w1, w2, w3, w4, w5, w6, w7, w8, w9⟩ := id hW
  refine zv_aload_n C dX8_needs_0 rfl rfl ?_
  refine zv_iload_n C dX8_needs_1 rfl ?_
  refine zv_iload_n C dX8_needs_2 rfl ?_
  refine zv_cVi0_2 C dX8_needs_3 k_X8_isYearToCome l_X8_141 hd.1 rfl ⟨Nat.le_of_ble_eq_true rfl, Nat.le_of_ble_eq_true rfl⟩ ⟨rfl, rfl⟩ ⟨Nat.le_of_ble_eq_true rfl, Nat.le_of_ble_eq_true rfl⟩ rfl rfl ?_
  refine s_X8_isYearToCome hd hc hB hK hW gB (fun b3 => ?_) (fun b3 => ?_)
  · refine zv_if_ne C 11 dX8_needs_6 rfl (fun _ => ?_) (fun h => absurd h (by omega))
    refine zv_aload_n C dX8_needs_11 rfl rfl ?_
    refine zv_getR C dX8_needs_12 f_X8_24 hd.1 rfl hd.2.2.2.2.2.2.2.2.2.2.1 ?_
    refine zv_aload_n C dX8_needs_15 rfl rfl ?_
    refine zv_getR C dX8_needs_16 f_X8_44 hd.1 rfl hd.2.2.2.2.2.2.2.2.2.2.2.2.2.1 ?_
    refine zv_iload_n C dX8_needs_19 rfl ?_
    refine zv_cVv0_2 C dX8_needs_20 k_X4_workOut l_X8_145 hc.1 rfl ⟨Nat.le_of_ble_eq_true rfl, Nat.le_of_ble_eq_true rfl⟩ ⟨rfl, rfl⟩ ⟨Nat.le_of_ble_eq_true rfl, Nat.le_of_ble_eq_true rfl⟩ rfl rfl ?_
    refine s_X4_workOut hc hB hK hW gB (by omega) (by omega) (fun F1 A1 hv fr => ?_)
    refine zv_aload_n C dX8_needs_23 rfl rfl ?_
    refine zv_getR C dX8_needs_24 f_X8_24 hd.1 rfl hd.2.2.2.2.2.2.2.2.2.2.1 ?_
    refine zv_cVi0_0 C dX8_needs_27 k_X4_unrecognised l_X8_188 hc.1 rfl ⟨Nat.le_of_ble_eq_true rfl, Nat.le_of_ble_eq_true rfl⟩ ⟨rfl, rfl⟩ ⟨Nat.le_of_ble_eq_true rfl, Nat.le_of_ble_eq_true rfl⟩ rfl rfl ?_
    refine s_X4_unrecognised hc ?_
    rw [hv.2.2, mUn_0 (yr' := y)]
    refine zv_if_ne C 35 dX8_needs_30 rfl (fun h30 => ?_) (fun h30 => ?_)
    · refine zv_aload_n C dX8_needs_35 rfl rfl ?_
      refine zv_iload_n C dX8_needs_36 rfl ?_
      refine zv_iload_n C dX8_needs_37 rfl ?_
      refine zv_cVi0_2 C dX8_needs_38 k_X8_leastProfitMore l_X8_191 hd.1 rfl ⟨Nat.le_of_ble_eq_true rfl, Nat.le_of_ble_eq_true rfl⟩ ⟨rfl, rfl⟩ ⟨Nat.le_of_ble_eq_true rfl, Nat.le_of_ble_eq_true rfl⟩ rfl rfl ?_
      refine s_X8_leastProfitMore hd hc hB (fr.bk hK gB) hW gB hv.1 (by omega) (by omega) (by unfold enough; omega) (fun he F2 A2 fr2 => ?_) (fun r h0 h9 he hl F2 A2 fr2 => ?_)
      · refine zv_ireturn C dX8_needs_41 rfl rfl rfl rfl ?_
        exact h2 b3 (by unfold enough; omega) he F2 A2 (fr.trans fr2)
      refine zv_ireturn C dX8_needs_41 rfl rfl rfl rfl ?_
      exact hp b3 r h0 h9 he hl F2 A2 (fr.trans fr2)
    · refine zv_iconst C dX8_needs_33 rfl ?_
      refine zv_ireturn C dX8_needs_34 rfl rfl rfl rfl ?_
      exact hz b3 (by unfold enough; omega) F1 A1 fr
  · refine zv_if_ne C 11 dX8_needs_6 rfl (fun h => absurd h (by omega)) (fun _ => ?_)
    refine zv_iconst C dX8_needs_9 rfl ?_
    refine zv_ireturn C dX8_needs_10 rfl rfl rfl rfl ?_
    exact hn b3
