set_option maxRecDepth 20000 in
theorem s_X9_yearEnd {T : zTt} {FR : zFR} {AR : zAR} {FI : zFI} {AI : zAI} {Post : zPost}  (hL : mLay T FR) (hG : mG (AI 111)) (hq0 : 0 ≤ FI 100 14) (hq1 : FI 100 14 ≤ 10) (hnm1 : AI 111 0 = 39 → Post (zI (-1)) T FR AR (zsF FI 100 0 0) AI) (hp : AI 111 0 < 39 → ∀ (S : Int → Int) (q : Int), zSnp (AI 113) (AI 111) (FI 100 14) S q → ∀ A1, zFr (zrow AI 113 S) A1 → Post (zI (AI 111 0 + 1)) T FR AR (zsF (zsF FI 100 0 0) 100 14 (q + 1)) (zrow A1 111 (nYear (AI 111)))) : zMet M_X9_yearEnd [zR 100] T FR AR FI AI Post := by
  refine zMet.of [some (zR 100), none] rfl rfl rfl (fun G C => ?_)
  have hW := hG.1
  obtain ⟨w0, w1, w2, w3, w4, w5, w6, w7, w8, w9⟩ := id hW
  suffices lp1 : AI 111 0 < 39 → ∀ (S : Int → Int) (q : Int), zSnp (AI 113) (AI 111) (FI 100 14) S q → ∀ (d k : Nat), k + d = (AI 111 2).toNat → zV G 24 [some (zR 100), some (zI (k : Int))] [] T FR AR (zsF (zsF FI 100 0 0) 100 14 (q + 1)) (zrow (zrow AI 113 S) 111 (zit nBr (AI 111) k)) 0 0 from by
    refine zv_aload_n C dX9_yearEnd_0 rfl rfl ?_
    refine zv_iconst C dX9_yearEnd_1 rfl ?_
    refine zv_putI C dX9_yearEnd_2 f_X9_1 hL.1 rfl ?_
    refine zv_aload_n C dX9_yearEnd_5 rfl rfl ?_
    refine zv_getR C dX9_yearEnd_6 f_X9_74 hL.1 rfl hL.2.2.2.2.2.2.2.2.2.2.2.2.2.2.2.1 ?_
    refine zv_iconst C dX9_yearEnd_9 rfl ?_
    refine zv_iaload C dX9_yearEnd_10 hL.2.2.1 ⟨by omega, by omega⟩ ?_
    refine zv_bipush C dX9_yearEnd_11 rfl ?_
    refine zv_icmp_ne C 18 dX9_yearEnd_13 rfl (fun h13 => ?_) (fun h13 => ?_)
    · refine zv_aload_n C dX9_yearEnd_18 rfl rfl ?_
      refine zv_cVv0_0 C dX9_yearEnd_19 k_X9_snap l_X9_266 hL.1 rfl ⟨Nat.le_of_ble_eq_true rfl, Nat.le_of_ble_eq_true rfl⟩ ⟨rfl, rfl⟩ ⟨Nat.le_of_ble_eq_true rfl, Nat.le_of_ble_eq_true rfl⟩ rfl rfl ?_
      refine s_X9_snap hL (by rw [zsF_ne (by decide)]; exact hq0) (by rw [zsF_ne (by decide)]; exact hq1) (fun S q hS => ?_)
      rw [zsF_ne (by decide)] at hS
      rw [zrow_111]
      refine zv_iconst C dX9_yearEnd_22 rfl ?_
      refine zv_istore_1 C dX9_yearEnd_23 rfl rfl ?_
      exact lp1 (by omega) S q hS (AI 111 2).toNat 0 (by omega)
    · refine zv_iconst C dX9_yearEnd_16 rfl ?_
      refine zv_ireturn C dX9_yearEnd_17 rfl rfl rfl rfl ?_
      exact hnm1 (by omega)
  intro hy S q hS d
  induction d with
  | zero =>
    intro k hk
    have ek : k = (AI 111 2).toNat := by omega
    subst ek
    obtain ⟨g1, g2⟩ := zit_Br hG (AI 111 2).toNat (by omega)
    generalize hM : zit nBr (AI 111) (AI 111 2).toNat = M at *
    have m0 : M 0 = AI 111 0 := g2 0 (by omega)
    have m2 : M 2 = AI 111 2 := g2 2 (by omega)
    suffices lp2 : ∀ (d k : Nat) (A1 : zAI), zFr (zrow AI 113 S) A1 → k + d = (AI 111 2).toNat → zV G 47 [some (zR 100), some (zI (k : Int))] [] T FR AR (zsF (zsF FI 100 0 0) 100 14 (q + 1)) (zrow A1 111 (zit nCs M k)) 0 0 from by
      refine zv_iload_n C dX9_yearEnd_24 rfl ?_
      refine zv_aload_n C dX9_yearEnd_25 rfl rfl ?_
      refine zv_getR C dX9_yearEnd_26 f_X9_74 hL.1 rfl hL.2.2.2.2.2.2.2.2.2.2.2.2.2.2.2.1 ?_
      refine zv_iconst C dX9_yearEnd_29 rfl ?_
      refine zv_iaload C dX9_yearEnd_30 hL.2.2.1 ⟨by omega, by omega⟩ ?_
      rw [zrow_eq, m2]
      refine zv_icmp_ge C 45 dX9_yearEnd_31 rfl (fun h31 => ?_) (fun h31 => absurd h31 (by omega))
      refine zv_iconst C dX9_yearEnd_45 rfl ?_
      refine zv_istore_1 C dX9_yearEnd_46 rfl rfl ?_
      have z := lp2 (AI 111 2).toNat 0 (zrow AI 113 S) (fun _ _ => rfl) (by omega)
      exact z
    intro d2
    induction d2 with
    | zero =>
      intro k A1 hA hk2
      have ek : k = (AI 111 2).toNat := by omega
      subst ek
      obtain ⟨p1, p2⟩ := zit_Cs g1 (AI 111 2).toNat (by omega)
      have e0 := p2 0 (by omega) (by omega)
      have e2 := p2 2 (by omega) (by omega)
      have ey : zu1 (zit nCs M (AI 111 2).toNat) 0 (AI 111 0 + 1) = nYear (AI 111) := by
        unfold nYear
        rw [hM]
      refine zv_iload_n C dX9_yearEnd_47 rfl ?_
      refine zv_aload_n C dX9_yearEnd_48 rfl rfl ?_
      refine zv_getR C dX9_yearEnd_49 f_X9_74 hL.1 rfl hL.2.2.2.2.2.2.2.2.2.2.2.2.2.2.2.1 ?_
      refine zv_iconst C dX9_yearEnd_52 rfl ?_
      refine zv_iaload C dX9_yearEnd_53 hL.2.2.1 ⟨by omega, by omega⟩ ?_
      rw [zrow_eq, e2, m2]
      refine zv_icmp_ge C 68 dX9_yearEnd_54 rfl (fun h54 => ?_) (fun h54 => absurd h54 (by omega))
      refine zv_aload_n C dX9_yearEnd_68 rfl rfl ?_
      refine zv_getR C dX9_yearEnd_69 f_X9_74 hL.1 rfl hL.2.2.2.2.2.2.2.2.2.2.2.2.2.2.2.1 ?_
      refine zv_iconst C dX9_yearEnd_72 rfl ?_
      refine zv_dup2 C dX9_yearEnd_73 rfl rfl ?_
      refine zv_iaload C dX9_yearEnd_74 hL.2.2.1 ⟨by omega, by omega⟩ ?_
      rw [zrow_eq, e0, m0]
      refine zv_iconst C dX9_yearEnd_75 rfl ?_
      refine zv_iadd C dX9_yearEnd_76 ⟨by omega, by omega⟩ ?_
      refine zv_iastore C dX9_yearEnd_77 hL.2.2.1 ⟨by omega, by omega⟩ ?_
      rw [zrow_set, ey]
      refine zv_aload_n C dX9_yearEnd_78 rfl rfl ?_
      refine zv_getR C dX9_yearEnd_79 f_X9_74 hL.1 rfl hL.2.2.2.2.2.2.2.2.2.2.2.2.2.2.2.1 ?_
      refine zv_iconst C dX9_yearEnd_82 rfl ?_
      refine zv_iaload C dX9_yearEnd_83 hL.2.2.1 ⟨by omega, by omega⟩ ?_
      rw [zrow_eq, ← ey, zu1_eq, ey]
      refine zv_ireturn C dX9_yearEnd_84 rfl rfl rfl rfl ?_
      exact hp hy S q hS A1 hA
    | succ d2 ih2 =>
      intro k A1 hA hk2
      obtain ⟨p1, p2⟩ := zit_Cs g1 k (by omega)
      have e2 := p2 2 (by omega) (by omega)
      refine zv_iload_n C dX9_yearEnd_47 rfl ?_
      refine zv_aload_n C dX9_yearEnd_48 rfl rfl ?_
      refine zv_getR C dX9_yearEnd_49 f_X9_74 hL.1 rfl hL.2.2.2.2.2.2.2.2.2.2.2.2.2.2.2.1 ?_
      refine zv_iconst C dX9_yearEnd_52 rfl ?_
      refine zv_iaload C dX9_yearEnd_53 hL.2.2.1 ⟨by omega, by omega⟩ ?_
      rw [zrow_eq, e2, m2]
      refine zv_icmp_ge C 68 dX9_yearEnd_54 rfl (fun h54 => absurd h54 (by omega)) (fun h54 => ?_)
      refine zv_aload_n C dX9_yearEnd_57 rfl rfl ?_
      refine zv_iload_n C dX9_yearEnd_58 rfl ?_
      refine zv_cVv0_1 C dX9_yearEnd_59 k_X9_closes l_X9_275 hL.1 rfl ⟨Nat.le_of_ble_eq_true rfl, Nat.le_of_ble_eq_true rfl⟩ ⟨rfl, rfl⟩ ⟨Nat.le_of_ble_eq_true rfl, Nat.le_of_ble_eq_true rfl⟩ rfl rfl ?_
      refine s_X9_closes hL (by rw [zrow_eqF]; exact p1.1) (by rw [zrow_eqF]; exact p1.2.1) (by rw [zrow_eqF]; exact p1.2.2) (by omega) (by omega) (fun A2 hA2 => ?_)
      rw [zrow_eqF]
      refine zv_iinc_1 C dX9_yearEnd_62 rfl rfl ⟨by omega, by omega⟩ ?_
      refine zv_goto C 47 dX9_yearEnd_65 rfl ?_
      have z := ih2 (k + 1) (zrow A2 111 (A1 111)) (fun a ha => by
        by_cases e : a = 111
        · rw [e, zrow_eqF]; exact hA 111 (by decide)
        · rw [zrow_neF e, hA2 a ha, zrow_neF e]; exact hA a ha) (by omega)
      rw [zrow_zrow] at z
      exact z
  | succ d ih =>
    intro k hk
    obtain ⟨g1, g2⟩ := zit_Br hG k (by omega)
    have m2 := g2 2 (by omega)
    have z := ih (k + 1) (by omega)
    refine zv_iload_n C dX9_yearEnd_24 rfl ?_
    refine zv_aload_n C dX9_yearEnd_25 rfl rfl ?_
    refine zv_getR C dX9_yearEnd_26 f_X9_74 hL.1 rfl hL.2.2.2.2.2.2.2.2.2.2.2.2.2.2.2.1 ?_
    refine zv_iconst C dX9_yearEnd_29 rfl ?_
    refine zv_iaload C dX9_yearEnd_30 hL.2.2.1 ⟨by omega, by omega⟩ ?_
    rw [zrow_eq, m2]
    refine zv_icmp_ge C 45 dX9_yearEnd_31 rfl (fun h31 => absurd h31 (by omega)) (fun h31 => ?_)
    refine zv_aload_n C dX9_yearEnd_34 rfl rfl ?_
    refine zv_iload_n C dX9_yearEnd_35 rfl ?_
    refine zv_cVv0_1 C dX9_yearEnd_36 k_X9_bears l_X9_272 hL.1 rfl ⟨Nat.le_of_ble_eq_true rfl, Nat.le_of_ble_eq_true rfl⟩ ⟨rfl, rfl⟩ ⟨Nat.le_of_ble_eq_true rfl, Nat.le_of_ble_eq_true rfl⟩ rfl rfl ?_
    refine s_X9_bears hL (by rw [zrow_eqF]; exact g1.1) (by omega) (by omega) ?_
    rw [zrow_eqF, zrow_zrow]
    refine zv_iinc_1 C dX9_yearEnd_39 rfl rfl ⟨by omega, by omega⟩ ?_
    refine zv_goto C 24 dX9_yearEnd_42 rfl ?_
    exact z

