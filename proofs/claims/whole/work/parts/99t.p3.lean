set_option maxRecDepth 20000 in
theorem law_15_0 {nm : String} {G : zG} (C : zCx (M_law nm) zPF G) {b L : Nat} {xs : Nat → Int32} (S : zScr b L xs G) (E : zExs G) {T : zTt} {FR : zFR} {AR : zAR} {FI : zFI} {AI : zAI} {B D : Nat} {i : Int} {w5 w6 : Option zVal} {k n : Nat} (h : lR T FR AR FI AI B D) (i0 : 0 ≤ i) (i6 : i + 6 ≤ L) (iL : L ≤ 3072) (hk : k + 29 ≤ 601024) (hn : n + 979 ≤ 7293034) (kk : ∀ (w5 w6 : Option zVal) (T : zTt) (FR : zFR) (AR : zAR) (FI : zFI) (AI : zAI) (B D : Nat), lR T FR AR FI AI B D → zV G 966 [some (zA 99), some (zR 0), some (zR 100), some (zR 90), some (zI i), w5, w6] [] T FR AR FI AI (k + 29) (n + 979)) (c2 : sv xs (i + 2) = 0) : zV G 777 [some (zA 99), some (zR 0), some (zR 100), some (zR 90), some (zI i), w5, w6] [] T FR AR FI AI k n := by
  obtain ⟨⟨gBD, hd, hc, hB, hD, hL, h90, hs, hsl⟩, ⟨t1, t2, t3, t4⟩, ⟨r1, r2, r3, r4, r5, r6, r7, r8, r9⟩⟩ := id h
  have hW := r1.1
  have gB : 14 ≤ B := by omega
  have b0 := mG_b r1
  have xs9 := sl_b r7.1 r7.2
  refine zv_aload_n C dL_law_777 rfl rfl ?_
  refine zv_aload_n C dL_law_778 rfl rfl ?_
  refine zv_iload C dL_law_779 rfl ?_
  refine zv_iconst C dL_law_781 rfl ?_
  refine zv_iadd C dL_law_782 ⟨by omega, by omega⟩ ?_
  refine zv_sld C S dL_law_783 ⟨by omega, by omega⟩ ?_
  refine zv_aload_n C dL_law_784 rfl rfl ?_
  refine zv_iload C dL_law_785 rfl ?_
  refine zv_iconst C dL_law_787 rfl ?_
  refine zv_iadd C dL_law_788 ⟨by omega, by omega⟩ ?_
  refine zv_sld C S dL_law_789 ⟨by omega, by omega⟩ ?_
  refine zv_if_eq C 797 dL_law_790 rfl (fun h790 => ?_) (fun h790 => absurd h790 (by omega))
  refine zv_iconst C dL_law_797 rfl ?_
  refine zv_aload_n C dL_law_798 rfl rfl ?_
  refine zv_iload C dL_law_799 rfl ?_
  refine zv_iconst C dL_law_801 rfl ?_
  refine zv_iadd C dL_law_802 ⟨by omega, by omega⟩ ?_
  refine zv_sld C S dL_law_803 ⟨by omega, by omega⟩ ?_
  refine zv_aload_n C dL_law_804 rfl rfl ?_
  refine zv_iload C dL_law_805 rfl ?_
  refine zv_iconst C dL_law_807 rfl ?_
  refine zv_iadd C dL_law_808 ⟨by omega, by omega⟩ ?_
  refine zv_sld C S dL_law_809 ⟨by omega, by omega⟩ ?_
  refine zv_aload_n C dL_law_810 rfl rfl ?_
  refine zv_iload C dL_law_811 rfl ?_
  refine zv_iconst C dL_law_813 rfl ?_
  refine zv_iadd C dL_law_814 ⟨by omega, by omega⟩ ?_
  refine zv_sld C S dL_law_815 ⟨by omega, by omega⟩ ?_
  refine zv_cVin_5 C dL_law_816 k_X8_arises l_L_91 hd.1 rfl ⟨(by first | exact Nat.le_of_ble_eq_true rfl | (show _ ≤ (601024 : Nat); omega) | (show _ ≤ (7293034 : Nat); omega)), (by first | exact Nat.le_of_ble_eq_true rfl | (show _ ≤ (601024 : Nat); omega) | (show _ ≤ (7293034 : Nat); omega))⟩ (k + 5) (n + 439) ⟨rfl, rfl⟩ ⟨(by first | exact Nat.le_of_ble_eq_true rfl | (show _ ≤ (601024 : Nat); omega) | (show _ ≤ (7293034 : Nat); omega)), (by first | exact Nat.le_of_ble_eq_true rfl | (show _ ≤ (601024 : Nat); omega) | (show _ ≤ (7293034 : Nat); omega))⟩ rfl rfl ?_
  refine s_X8_arises hd hc hB r2 hW gB (hsl (FI 14 1) r7.1 r7.2) (by unfold zb; omega) (by omega) r7.1 r7.2 (by omega) (by omega) (by omega) (by omega) (fun ok e30 => ?_) (fun no => ?_) (fun ok l30 T1 FR1 AR1 F1 A1 kp F2 A2 f2 kb => ?_)
  · refine zv_aload_n C dL_law_819 rfl rfl ?_
    refine zv_aload_n C dL_law_820 rfl rfl ?_
    refine zv_iload C dL_law_821 rfl ?_
    refine zv_iconst C dL_law_823 rfl ?_
    refine zv_iadd C dL_law_824 ⟨by omega, by omega⟩ ?_
    refine zv_sld C S dL_law_825 ⟨by omega, by omega⟩ ?_
    refine zv_aload_n C dL_law_826 rfl rfl ?_
    refine zv_iload C dL_law_827 rfl ?_
    refine zv_iconst C dL_law_829 rfl ?_
    refine zv_iadd C dL_law_830 ⟨by omega, by omega⟩ ?_
    refine zv_sld C S dL_law_831 ⟨by omega, by omega⟩ ?_
    refine zv_if_eq C 839 dL_law_832 rfl (fun h832 => ?_) (fun h832 => absurd h832 (by omega))
    refine zv_iconst C dL_law_839 rfl ?_
    refine zv_aload_n C dL_law_840 rfl rfl ?_
    refine zv_iload C dL_law_841 rfl ?_
    refine zv_iconst C dL_law_843 rfl ?_
    refine zv_iadd C dL_law_844 ⟨by omega, by omega⟩ ?_
    refine zv_sld C S dL_law_845 ⟨by omega, by omega⟩ ?_
    refine zv_aload_n C dL_law_846 rfl rfl ?_
    refine zv_iload C dL_law_847 rfl ?_
    refine zv_iconst C dL_law_849 rfl ?_
    refine zv_iadd C dL_law_850 ⟨by omega, by omega⟩ ?_
    refine zv_sld C S dL_law_851 ⟨by omega, by omega⟩ ?_
    refine zv_aload_n C dL_law_852 rfl rfl ?_
    refine zv_iload C dL_law_853 rfl ?_
    refine zv_iconst C dL_law_855 rfl ?_
    refine zv_iadd C dL_law_856 ⟨by omega, by omega⟩ ?_
    refine zv_sld C S dL_law_857 ⟨by omega, by omega⟩ ?_
    refine zv_cVi0_5 C dL_law_858 k_X9_arises l_L_95 hL.1 rfl ⟨(by first | exact Nat.le_of_ble_eq_true rfl | (show _ ≤ (601024 : Nat); omega) | (show _ ≤ (7293034 : Nat); omega)), (by first | exact Nat.le_of_ble_eq_true rfl | (show _ ≤ (601024 : Nat); omega) | (show _ ≤ (7293034 : Nat); omega))⟩ ⟨rfl, rfl⟩ ⟨(by first | exact Nat.le_of_ble_eq_true rfl | (show _ ≤ (601024 : Nat); omega) | (show _ ≤ (7293034 : Nat); omega)), (by first | exact Nat.le_of_ble_eq_true rfl | (show _ ≤ (601024 : Nat); omega) | (show _ ≤ (7293034 : Nat); omega))⟩ rfl rfl ?_
    refine s_X9_arises hL hW (by omega) (by omega) (fun no2 => absurd ok no2) (fun ok2 e31 => ?_) (fun ok2 l30 => absurd l30 (by omega))
    refine zv_icmp_eq C 966 dL_law_861 rfl (fun h861 => ?_) (fun h861 => absurd h861 (by exact fun z => z (by first | rfl | omega)))
    exact zv_widen (by omega) (by omega) (kk _ _ _ _ _ _ _ _ _ (lR_fr h (fun o j p1 p2 => zsF_ne (by omega)) (fun _ _ _ _ _ => rfl)))
  · refine zv_aload_n C dL_law_819 rfl rfl ?_
    refine zv_aload_n C dL_law_820 rfl rfl ?_
    refine zv_iload C dL_law_821 rfl ?_
    refine zv_iconst C dL_law_823 rfl ?_
    refine zv_iadd C dL_law_824 ⟨by omega, by omega⟩ ?_
    refine zv_sld C S dL_law_825 ⟨by omega, by omega⟩ ?_
    refine zv_aload_n C dL_law_826 rfl rfl ?_
    refine zv_iload C dL_law_827 rfl ?_
    refine zv_iconst C dL_law_829 rfl ?_
    refine zv_iadd C dL_law_830 ⟨by omega, by omega⟩ ?_
    refine zv_sld C S dL_law_831 ⟨by omega, by omega⟩ ?_
    refine zv_if_eq C 839 dL_law_832 rfl (fun h832 => ?_) (fun h832 => absurd h832 (by omega))
    refine zv_iconst C dL_law_839 rfl ?_
    refine zv_aload_n C dL_law_840 rfl rfl ?_
    refine zv_iload C dL_law_841 rfl ?_
    refine zv_iconst C dL_law_843 rfl ?_
    refine zv_iadd C dL_law_844 ⟨by omega, by omega⟩ ?_
    refine zv_sld C S dL_law_845 ⟨by omega, by omega⟩ ?_
    refine zv_aload_n C dL_law_846 rfl rfl ?_
    refine zv_iload C dL_law_847 rfl ?_
    refine zv_iconst C dL_law_849 rfl ?_
    refine zv_iadd C dL_law_850 ⟨by omega, by omega⟩ ?_
    refine zv_sld C S dL_law_851 ⟨by omega, by omega⟩ ?_
    refine zv_aload_n C dL_law_852 rfl rfl ?_
    refine zv_iload C dL_law_853 rfl ?_
    refine zv_iconst C dL_law_855 rfl ?_
    refine zv_iadd C dL_law_856 ⟨by omega, by omega⟩ ?_
    refine zv_sld C S dL_law_857 ⟨by omega, by omega⟩ ?_
    refine zv_cVi0_5 C dL_law_858 k_X9_arises l_L_95 hL.1 rfl ⟨(by first | exact Nat.le_of_ble_eq_true rfl | (show _ ≤ (601024 : Nat); omega) | (show _ ≤ (7293034 : Nat); omega)), (by first | exact Nat.le_of_ble_eq_true rfl | (show _ ≤ (601024 : Nat); omega) | (show _ ≤ (7293034 : Nat); omega))⟩ ⟨rfl, rfl⟩ ⟨(by first | exact Nat.le_of_ble_eq_true rfl | (show _ ≤ (601024 : Nat); omega) | (show _ ≤ (7293034 : Nat); omega)), (by first | exact Nat.le_of_ble_eq_true rfl | (show _ ≤ (601024 : Nat); omega) | (show _ ≤ (7293034 : Nat); omega))⟩ rfl rfl ?_
    refine s_X9_arises hL hW (by omega) (by omega) (fun no2 => ?_) (fun ok2 e30 => absurd ok2 no) (fun ok2 => absurd ok2 no)
    refine zv_icmp_eq C 966 dL_law_861 rfl (fun h861 => ?_) (fun h861 => absurd h861 (by exact fun z => z (by first | rfl | omega)))
    exact zv_widen (by omega) (by omega) (kk _ _ _ _ _ _ _ _ _ (lR_fr h (fun o j p1 p2 => zsF_ne (by omega)) (fun _ _ _ _ _ => rfl)))
  · have hl1 := lRl_keep h.1 r7.1 r7.2 kp
    have hL := hl1.2.2.2.2.2.1
    have e111 : A2 111 = AI 111 := (f2.2 111 (by omega)).trans (kp.1 111 (by omega)).2.2
    have e14 : F2 100 14 = FI 100 14 := (f2.1 100 14 (by omega)).trans (kp.2.1 100 14 (by omega) (by omega))
    have hW1 : mW (A2 111) (AI 111 3).toNat (AI 111 4).toNat := by rw [e111]; exact hW
    refine zv_aload_n C dL_law_819 rfl rfl ?_
    refine zv_aload_n C dL_law_820 rfl rfl ?_
    refine zv_iload C dL_law_821 rfl ?_
    refine zv_iconst C dL_law_823 rfl ?_
    refine zv_iadd C dL_law_824 ⟨by omega, by omega⟩ ?_
    refine zv_sld C S dL_law_825 ⟨by omega, by omega⟩ ?_
    refine zv_aload_n C dL_law_826 rfl rfl ?_
    refine zv_iload C dL_law_827 rfl ?_
    refine zv_iconst C dL_law_829 rfl ?_
    refine zv_iadd C dL_law_830 ⟨by omega, by omega⟩ ?_
    refine zv_sld C S dL_law_831 ⟨by omega, by omega⟩ ?_
    refine zv_if_eq C 839 dL_law_832 rfl (fun h832 => ?_) (fun h832 => absurd h832 (by omega))
    refine zv_iconst C dL_law_839 rfl ?_
    refine zv_aload_n C dL_law_840 rfl rfl ?_
    refine zv_iload C dL_law_841 rfl ?_
    refine zv_iconst C dL_law_843 rfl ?_
    refine zv_iadd C dL_law_844 ⟨by omega, by omega⟩ ?_
    refine zv_sld C S dL_law_845 ⟨by omega, by omega⟩ ?_
    refine zv_aload_n C dL_law_846 rfl rfl ?_
    refine zv_iload C dL_law_847 rfl ?_
    refine zv_iconst C dL_law_849 rfl ?_
    refine zv_iadd C dL_law_850 ⟨by omega, by omega⟩ ?_
    refine zv_sld C S dL_law_851 ⟨by omega, by omega⟩ ?_
    refine zv_aload_n C dL_law_852 rfl rfl ?_
    refine zv_iload C dL_law_853 rfl ?_
    refine zv_iconst C dL_law_855 rfl ?_
    refine zv_iadd C dL_law_856 ⟨by omega, by omega⟩ ?_
    refine zv_sld C S dL_law_857 ⟨by omega, by omega⟩ ?_
    refine zv_cVi0_5 C dL_law_858 k_X9_arises l_L_95 hL.1 rfl ⟨(by first | exact Nat.le_of_ble_eq_true rfl | (show _ ≤ (601024 : Nat); omega) | (show _ ≤ (7293034 : Nat); omega)), (by first | exact Nat.le_of_ble_eq_true rfl | (show _ ≤ (601024 : Nat); omega) | (show _ ≤ (7293034 : Nat); omega))⟩ ⟨rfl, rfl⟩ ⟨(by first | exact Nat.le_of_ble_eq_true rfl | (show _ ≤ (601024 : Nat); omega) | (show _ ≤ (7293034 : Nat); omega)), (by first | exact Nat.le_of_ble_eq_true rfl | (show _ ≤ (601024 : Nat); omega) | (show _ ≤ (7293034 : Nat); omega))⟩ rfl rfl ?_
    refine s_X9_arises hL hW1 (by rw [e14]; omega) (by rw [e14]; omega) (fun no2 => ?_) (fun ok2 e31 => ?_) (fun ok2 l31 Sx qx hS => ?_)
    · exfalso; rw [e111] at no2; exact no2 ok
    · exfalso; rw [e111] at e31; omega
    · rw [e111]
      refine zv_icmp_eq C 966 dL_law_861 rfl (fun h861 => ?_) (fun h861 => absurd h861 (by exact fun z => z (by first | rfl | omega)))
      exact zv_widen (by omega) (by omega) (kk _ _ _ _ _ _ _ _ _ (lR_act h kp f2 kb hS (mG_arise r1 (by omega) (by omega) (by split <;> simp) (by omega) (by omega) (by omega) (by omega) (by omega) (by omega)) (by unfold nArise; rw [zu1_ne (by omega), zu1_ne (by omega), zu1_ne (by omega), zu1_ne (by omega), zu1_ne (by omega), zu1_ne (by omega)]) (by unfold nArise; rw [zu1_ne (by omega), zu1_ne (by omega), zu1_ne (by omega), zu1_ne (by omega), zu1_ne (by omega), zu1_ne (by omega)]) (fun j p q => by unfold nArise; rw [zu1_ne (by omega), zu1_ne (by omega), zu1_ne (by omega), zu1_ne (by omega), zu1_ne (by omega), zu1_ne (by omega)])))
set_option maxRecDepth 20000 in
theorem law_15_1 {nm : String} {G : zG} (C : zCx (M_law nm) zPF G) {b L : Nat} {xs : Nat → Int32} (S : zScr b L xs G) (E : zExs G) {T : zTt} {FR : zFR} {AR : zAR} {FI : zFI} {AI : zAI} {B D : Nat} {i : Int} {w5 w6 : Option zVal} {k n : Nat} (h : lR T FR AR FI AI B D) (i0 : 0 ≤ i) (i6 : i + 6 ≤ L) (iL : L ≤ 3072) (hk : k + 29 ≤ 601024) (hn : n + 979 ≤ 7293034) (kk : ∀ (w5 w6 : Option zVal) (T : zTt) (FR : zFR) (AR : zAR) (FI : zFI) (AI : zAI) (B D : Nat), lR T FR AR FI AI B D → zV G 966 [some (zA 99), some (zR 0), some (zR 100), some (zR 90), some (zI i), w5, w6] [] T FR AR FI AI (k + 29) (n + 979)) (c2 : ¬ sv xs (i + 2) = 0) : zV G 777 [some (zA 99), some (zR 0), some (zR 100), some (zR 90), some (zI i), w5, w6] [] T FR AR FI AI k n := by
  obtain ⟨⟨gBD, hd, hc, hB, hD, hL, h90, hs, hsl⟩, ⟨t1, t2, t3, t4⟩, ⟨r1, r2, r3, r4, r5, r6, r7, r8, r9⟩⟩ := id h
  have hW := r1.1
  have gB : 14 ≤ B := by omega
  have b0 := mG_b r1
  have xs9 := sl_b r7.1 r7.2
  refine zv_aload_n C dL_law_777 rfl rfl ?_
  refine zv_aload_n C dL_law_778 rfl rfl ?_
  refine zv_iload C dL_law_779 rfl ?_
  refine zv_iconst C dL_law_781 rfl ?_
  refine zv_iadd C dL_law_782 ⟨by omega, by omega⟩ ?_
  refine zv_sld C S dL_law_783 ⟨by omega, by omega⟩ ?_
  refine zv_aload_n C dL_law_784 rfl rfl ?_
  refine zv_iload C dL_law_785 rfl ?_
  refine zv_iconst C dL_law_787 rfl ?_
  refine zv_iadd C dL_law_788 ⟨by omega, by omega⟩ ?_
  refine zv_sld C S dL_law_789 ⟨by omega, by omega⟩ ?_
  refine zv_if_eq C 797 dL_law_790 rfl (fun h790 => absurd h790 (by omega)) (fun h790 => ?_)
  refine zv_iconst C dL_law_793 rfl ?_
  refine zv_goto C 798 dL_law_794 rfl ?_
  refine zv_aload_n C dL_law_798 rfl rfl ?_
  refine zv_iload C dL_law_799 rfl ?_
  refine zv_iconst C dL_law_801 rfl ?_
  refine zv_iadd C dL_law_802 ⟨by omega, by omega⟩ ?_
  refine zv_sld C S dL_law_803 ⟨by omega, by omega⟩ ?_
  refine zv_aload_n C dL_law_804 rfl rfl ?_
  refine zv_iload C dL_law_805 rfl ?_
  refine zv_iconst C dL_law_807 rfl ?_
  refine zv_iadd C dL_law_808 ⟨by omega, by omega⟩ ?_
  refine zv_sld C S dL_law_809 ⟨by omega, by omega⟩ ?_
  refine zv_aload_n C dL_law_810 rfl rfl ?_
  refine zv_iload C dL_law_811 rfl ?_
  refine zv_iconst C dL_law_813 rfl ?_
  refine zv_iadd C dL_law_814 ⟨by omega, by omega⟩ ?_
  refine zv_sld C S dL_law_815 ⟨by omega, by omega⟩ ?_
  refine zv_cVin_5 C dL_law_816 k_X8_arises l_L_91 hd.1 rfl ⟨(by first | exact Nat.le_of_ble_eq_true rfl | (show _ ≤ (601024 : Nat); omega) | (show _ ≤ (7293034 : Nat); omega)), (by first | exact Nat.le_of_ble_eq_true rfl | (show _ ≤ (601024 : Nat); omega) | (show _ ≤ (7293034 : Nat); omega))⟩ (k + 5) (n + 439) ⟨rfl, rfl⟩ ⟨(by first | exact Nat.le_of_ble_eq_true rfl | (show _ ≤ (601024 : Nat); omega) | (show _ ≤ (7293034 : Nat); omega)), (by first | exact Nat.le_of_ble_eq_true rfl | (show _ ≤ (601024 : Nat); omega) | (show _ ≤ (7293034 : Nat); omega))⟩ rfl rfl ?_
  refine s_X8_arises hd hc hB r2 hW gB (hsl (FI 14 1) r7.1 r7.2) (by unfold zb; omega) (by omega) r7.1 r7.2 (by omega) (by omega) (by omega) (by omega) (fun ok e30 => ?_) (fun no => ?_) (fun ok l30 T1 FR1 AR1 F1 A1 kp F2 A2 f2 kb => ?_)
  · refine zv_aload_n C dL_law_819 rfl rfl ?_
    refine zv_aload_n C dL_law_820 rfl rfl ?_
    refine zv_iload C dL_law_821 rfl ?_
    refine zv_iconst C dL_law_823 rfl ?_
    refine zv_iadd C dL_law_824 ⟨by omega, by omega⟩ ?_
    refine zv_sld C S dL_law_825 ⟨by omega, by omega⟩ ?_
    refine zv_aload_n C dL_law_826 rfl rfl ?_
    refine zv_iload C dL_law_827 rfl ?_
    refine zv_iconst C dL_law_829 rfl ?_
    refine zv_iadd C dL_law_830 ⟨by omega, by omega⟩ ?_
    refine zv_sld C S dL_law_831 ⟨by omega, by omega⟩ ?_
    refine zv_if_eq C 839 dL_law_832 rfl (fun h832 => absurd h832 (by omega)) (fun h832 => ?_)
    refine zv_iconst C dL_law_835 rfl ?_
    refine zv_goto C 840 dL_law_836 rfl ?_
    refine zv_aload_n C dL_law_840 rfl rfl ?_
    refine zv_iload C dL_law_841 rfl ?_
    refine zv_iconst C dL_law_843 rfl ?_
    refine zv_iadd C dL_law_844 ⟨by omega, by omega⟩ ?_
    refine zv_sld C S dL_law_845 ⟨by omega, by omega⟩ ?_
    refine zv_aload_n C dL_law_846 rfl rfl ?_
    refine zv_iload C dL_law_847 rfl ?_
    refine zv_iconst C dL_law_849 rfl ?_
    refine zv_iadd C dL_law_850 ⟨by omega, by omega⟩ ?_
    refine zv_sld C S dL_law_851 ⟨by omega, by omega⟩ ?_
    refine zv_aload_n C dL_law_852 rfl rfl ?_
    refine zv_iload C dL_law_853 rfl ?_
    refine zv_iconst C dL_law_855 rfl ?_
    refine zv_iadd C dL_law_856 ⟨by omega, by omega⟩ ?_
    refine zv_sld C S dL_law_857 ⟨by omega, by omega⟩ ?_
    refine zv_cVi0_5 C dL_law_858 k_X9_arises l_L_95 hL.1 rfl ⟨(by first | exact Nat.le_of_ble_eq_true rfl | (show _ ≤ (601024 : Nat); omega) | (show _ ≤ (7293034 : Nat); omega)), (by first | exact Nat.le_of_ble_eq_true rfl | (show _ ≤ (601024 : Nat); omega) | (show _ ≤ (7293034 : Nat); omega))⟩ ⟨rfl, rfl⟩ ⟨(by first | exact Nat.le_of_ble_eq_true rfl | (show _ ≤ (601024 : Nat); omega) | (show _ ≤ (7293034 : Nat); omega)), (by first | exact Nat.le_of_ble_eq_true rfl | (show _ ≤ (601024 : Nat); omega) | (show _ ≤ (7293034 : Nat); omega))⟩ rfl rfl ?_
    refine s_X9_arises hL hW (by omega) (by omega) (fun no2 => absurd ok no2) (fun ok2 e31 => ?_) (fun ok2 l30 => absurd l30 (by omega))
    refine zv_icmp_eq C 966 dL_law_861 rfl (fun h861 => ?_) (fun h861 => absurd h861 (by exact fun z => z (by first | rfl | omega)))
    exact zv_widen (by omega) (by omega) (kk _ _ _ _ _ _ _ _ _ (lR_fr h (fun o j p1 p2 => zsF_ne (by omega)) (fun _ _ _ _ _ => rfl)))
  · refine zv_aload_n C dL_law_819 rfl rfl ?_
    refine zv_aload_n C dL_law_820 rfl rfl ?_
    refine zv_iload C dL_law_821 rfl ?_
    refine zv_iconst C dL_law_823 rfl ?_
    refine zv_iadd C dL_law_824 ⟨by omega, by omega⟩ ?_
    refine zv_sld C S dL_law_825 ⟨by omega, by omega⟩ ?_
    refine zv_aload_n C dL_law_826 rfl rfl ?_
    refine zv_iload C dL_law_827 rfl ?_
    refine zv_iconst C dL_law_829 rfl ?_
    refine zv_iadd C dL_law_830 ⟨by omega, by omega⟩ ?_
    refine zv_sld C S dL_law_831 ⟨by omega, by omega⟩ ?_
    refine zv_if_eq C 839 dL_law_832 rfl (fun h832 => absurd h832 (by omega)) (fun h832 => ?_)
    refine zv_iconst C dL_law_835 rfl ?_
    refine zv_goto C 840 dL_law_836 rfl ?_
    refine zv_aload_n C dL_law_840 rfl rfl ?_
    refine zv_iload C dL_law_841 rfl ?_
    refine zv_iconst C dL_law_843 rfl ?_
    refine zv_iadd C dL_law_844 ⟨by omega, by omega⟩ ?_
    refine zv_sld C S dL_law_845 ⟨by omega, by omega⟩ ?_
    refine zv_aload_n C dL_law_846 rfl rfl ?_
    refine zv_iload C dL_law_847 rfl ?_
    refine zv_iconst C dL_law_849 rfl ?_
    refine zv_iadd C dL_law_850 ⟨by omega, by omega⟩ ?_
    refine zv_sld C S dL_law_851 ⟨by omega, by omega⟩ ?_
    refine zv_aload_n C dL_law_852 rfl rfl ?_
    refine zv_iload C dL_law_853 rfl ?_
    refine zv_iconst C dL_law_855 rfl ?_
    refine zv_iadd C dL_law_856 ⟨by omega, by omega⟩ ?_
    refine zv_sld C S dL_law_857 ⟨by omega, by omega⟩ ?_
    refine zv_cVi0_5 C dL_law_858 k_X9_arises l_L_95 hL.1 rfl ⟨(by first | exact Nat.le_of_ble_eq_true rfl | (show _ ≤ (601024 : Nat); omega) | (show _ ≤ (7293034 : Nat); omega)), (by first | exact Nat.le_of_ble_eq_true rfl | (show _ ≤ (601024 : Nat); omega) | (show _ ≤ (7293034 : Nat); omega))⟩ ⟨rfl, rfl⟩ ⟨(by first | exact Nat.le_of_ble_eq_true rfl | (show _ ≤ (601024 : Nat); omega) | (show _ ≤ (7293034 : Nat); omega)), (by first | exact Nat.le_of_ble_eq_true rfl | (show _ ≤ (601024 : Nat); omega) | (show _ ≤ (7293034 : Nat); omega))⟩ rfl rfl ?_
    refine s_X9_arises hL hW (by omega) (by omega) (fun no2 => ?_) (fun ok2 e30 => absurd ok2 no) (fun ok2 => absurd ok2 no)
    refine zv_icmp_eq C 966 dL_law_861 rfl (fun h861 => ?_) (fun h861 => absurd h861 (by exact fun z => z (by first | rfl | omega)))
    exact zv_widen (by omega) (by omega) (kk _ _ _ _ _ _ _ _ _ (lR_fr h (fun o j p1 p2 => zsF_ne (by omega)) (fun _ _ _ _ _ => rfl)))
  · have hl1 := lRl_keep h.1 r7.1 r7.2 kp
    have hL := hl1.2.2.2.2.2.1
    have e111 : A2 111 = AI 111 := (f2.2 111 (by omega)).trans (kp.1 111 (by omega)).2.2
    have e14 : F2 100 14 = FI 100 14 := (f2.1 100 14 (by omega)).trans (kp.2.1 100 14 (by omega) (by omega))
    have hW1 : mW (A2 111) (AI 111 3).toNat (AI 111 4).toNat := by rw [e111]; exact hW
    refine zv_aload_n C dL_law_819 rfl rfl ?_
    refine zv_aload_n C dL_law_820 rfl rfl ?_
    refine zv_iload C dL_law_821 rfl ?_
    refine zv_iconst C dL_law_823 rfl ?_
    refine zv_iadd C dL_law_824 ⟨by omega, by omega⟩ ?_
    refine zv_sld C S dL_law_825 ⟨by omega, by omega⟩ ?_
    refine zv_aload_n C dL_law_826 rfl rfl ?_
    refine zv_iload C dL_law_827 rfl ?_
    refine zv_iconst C dL_law_829 rfl ?_
    refine zv_iadd C dL_law_830 ⟨by omega, by omega⟩ ?_
    refine zv_sld C S dL_law_831 ⟨by omega, by omega⟩ ?_
    refine zv_if_eq C 839 dL_law_832 rfl (fun h832 => absurd h832 (by omega)) (fun h832 => ?_)
    refine zv_iconst C dL_law_835 rfl ?_
    refine zv_goto C 840 dL_law_836 rfl ?_
    refine zv_aload_n C dL_law_840 rfl rfl ?_
    refine zv_iload C dL_law_841 rfl ?_
    refine zv_iconst C dL_law_843 rfl ?_
    refine zv_iadd C dL_law_844 ⟨by omega, by omega⟩ ?_
    refine zv_sld C S dL_law_845 ⟨by omega, by omega⟩ ?_
    refine zv_aload_n C dL_law_846 rfl rfl ?_
    refine zv_iload C dL_law_847 rfl ?_
    refine zv_iconst C dL_law_849 rfl ?_
    refine zv_iadd C dL_law_850 ⟨by omega, by omega⟩ ?_
    refine zv_sld C S dL_law_851 ⟨by omega, by omega⟩ ?_
    refine zv_aload_n C dL_law_852 rfl rfl ?_
    refine zv_iload C dL_law_853 rfl ?_
    refine zv_iconst C dL_law_855 rfl ?_
    refine zv_iadd C dL_law_856 ⟨by omega, by omega⟩ ?_
    refine zv_sld C S dL_law_857 ⟨by omega, by omega⟩ ?_
    refine zv_cVi0_5 C dL_law_858 k_X9_arises l_L_95 hL.1 rfl ⟨(by first | exact Nat.le_of_ble_eq_true rfl | (show _ ≤ (601024 : Nat); omega) | (show _ ≤ (7293034 : Nat); omega)), (by first | exact Nat.le_of_ble_eq_true rfl | (show _ ≤ (601024 : Nat); omega) | (show _ ≤ (7293034 : Nat); omega))⟩ ⟨rfl, rfl⟩ ⟨(by first | exact Nat.le_of_ble_eq_true rfl | (show _ ≤ (601024 : Nat); omega) | (show _ ≤ (7293034 : Nat); omega)), (by first | exact Nat.le_of_ble_eq_true rfl | (show _ ≤ (601024 : Nat); omega) | (show _ ≤ (7293034 : Nat); omega))⟩ rfl rfl ?_
    refine s_X9_arises hL hW1 (by rw [e14]; omega) (by rw [e14]; omega) (fun no2 => ?_) (fun ok2 e31 => ?_) (fun ok2 l31 Sx qx hS => ?_)
    · exfalso; rw [e111] at no2; exact no2 ok
    · exfalso; rw [e111] at e31; omega
    · rw [e111]
      refine zv_icmp_eq C 966 dL_law_861 rfl (fun h861 => ?_) (fun h861 => absurd h861 (by exact fun z => z (by first | rfl | omega)))
      exact zv_widen (by omega) (by omega) (kk _ _ _ _ _ _ _ _ _ (lR_act h kp f2 kb hS (mG_arise r1 (by omega) (by omega) (by split <;> simp) (by omega) (by omega) (by omega) (by omega) (by omega) (by omega)) (by unfold nArise; rw [zu1_ne (by omega), zu1_ne (by omega), zu1_ne (by omega), zu1_ne (by omega), zu1_ne (by omega), zu1_ne (by omega)]) (by unfold nArise; rw [zu1_ne (by omega), zu1_ne (by omega), zu1_ne (by omega), zu1_ne (by omega), zu1_ne (by omega), zu1_ne (by omega)]) (fun j p q => by unfold nArise; rw [zu1_ne (by omega), zu1_ne (by omega), zu1_ne (by omega), zu1_ne (by omega), zu1_ne (by omega), zu1_ne (by omega)])))
theorem law_15 {nm : String} {G : zG} (C : zCx (M_law nm) zPF G) {b L : Nat} {xs : Nat → Int32} (S : zScr b L xs G) (E : zExs G) {T : zTt} {FR : zFR} {AR : zAR} {FI : zFI} {AI : zAI} {B D : Nat} {i : Int} {w5 w6 : Option zVal} {k n : Nat} (h : lR T FR AR FI AI B D) (i0 : 0 ≤ i) (i6 : i + 6 ≤ L) (iL : L ≤ 3072) (hk : k + 29 ≤ 601024) (hn : n + 979 ≤ 7293034) (kk : ∀ (w5 w6 : Option zVal) (T : zTt) (FR : zFR) (AR : zAR) (FI : zFI) (AI : zAI) (B D : Nat), lR T FR AR FI AI B D → zV G 966 [some (zA 99), some (zR 0), some (zR 100), some (zR 90), some (zI i), w5, w6] [] T FR AR FI AI (k + 29) (n + 979)) : zV G 777 [some (zA 99), some (zR 0), some (zR 100), some (zR 90), some (zI i), w5, w6] [] T FR AR FI AI k n := by
  by_cases c2 : sv xs (i + 2) = 0
  · exact law_15_0 C S E h i0 i6 iL hk hn kk c2
  · exact law_15_1 C S E h i0 i6 iL hk hn kk c2
set_option maxRecDepth 20000 in
theorem law_18 {nm : String} {G : zG} (C : zCx (M_law nm) zPF G) {b L : Nat} {xs : Nat → Int32} (S : zScr b L xs G) (E : zExs G) {T : zTt} {FR : zFR} {AR : zAR} {FI : zFI} {AI : zAI} {B D : Nat} {i : Int} {w5 w6 : Option zVal} {k n : Nat} (h : lR T FR AR FI AI B D) (i0 : 0 ≤ i) (i6 : i + 6 ≤ L) (iL : L ≤ 3072) (hk : k + 29 ≤ 601024) (hn : n + 979 ≤ 7293034) (kk : ∀ (w5 w6 : Option zVal) (T : zTt) (FR : zFR) (AR : zAR) (FI : zFI) (AI : zAI) (B D : Nat), lR T FR AR FI AI B D → zV G 966 [some (zA 99), some (zR 0), some (zR 100), some (zR 90), some (zI i), w5, w6] [] T FR AR FI AI (k + 29) (n + 979)) : zV G 940 [some (zA 99), some (zR 0), some (zR 100), some (zR 90), some (zI i), w5, w6] [] T FR AR FI AI k n := by
  obtain ⟨⟨gBD, hd, hc, hB, hD, hL, h90, hs, hsl⟩, ⟨t1, t2, t3, t4⟩, ⟨r1, r2, r3, r4, r5, r6, r7, r8, r9⟩⟩ := id h
  have hW := r1.1
  have gB : 14 ≤ B := by omega
  have b0 := mG_b r1
  have xs9 := sl_b r7.1 r7.2
  refine zv_aload_n C dL_law_940 rfl rfl ?_
  refine zv_cVin_0 C dL_law_941 k_X8_yearEnd l_L_104 hd.1 rfl ⟨(by first | exact Nat.le_of_ble_eq_true rfl | (show _ ≤ (601024 : Nat); omega) | (show _ ≤ (7293034 : Nat); omega)), (by first | exact Nat.le_of_ble_eq_true rfl | (show _ ≤ (601024 : Nat); omega) | (show _ ≤ (7293034 : Nat); omega))⟩ (k + 29) (n + 979) ⟨rfl, rfl⟩ ⟨(by first | exact Nat.le_of_ble_eq_true rfl | (show _ ≤ (601024 : Nat); omega) | (show _ ≤ (7293034 : Nat); omega)), (by first | exact Nat.le_of_ble_eq_true rfl | (show _ ≤ (601024 : Nat); omega) | (show _ ≤ (7293034 : Nat); omega))⟩ rfl rfl ?_
  refine s_X8_yearEnd hd hc hB r2 hW gB (hsl (FI 14 1) r7.1 r7.2) (by unfold zb; omega) (by omega) r7.1 r7.2 (by omega) (by omega) (by omega) (by omega) r1 hs r3 (by omega) (by omega) (by omega) (fun y39 => ?_) (fun y0 T1 FR1 AR1 F1 A1 kp T2 FR2 AR2 F2 A2 yr hd2 hc2 hB2 hs2 kb ck => ?_)
  · refine zv_aload_n C dL_law_944 rfl rfl ?_
    refine zv_cVi0_0 C dL_law_945 k_X9_yearEnd l_L_107 hL.1 rfl ⟨(by first | exact Nat.le_of_ble_eq_true rfl | (show _ ≤ (601024 : Nat); omega) | (show _ ≤ (7293034 : Nat); omega)), (by first | exact Nat.le_of_ble_eq_true rfl | (show _ ≤ (601024 : Nat); omega) | (show _ ≤ (7293034 : Nat); omega))⟩ ⟨rfl, rfl⟩ ⟨(by first | exact Nat.le_of_ble_eq_true rfl | (show _ ≤ (601024 : Nat); omega) | (show _ ≤ (7293034 : Nat); omega)), (by first | exact Nat.le_of_ble_eq_true rfl | (show _ ≤ (601024 : Nat); omega) | (show _ ≤ (7293034 : Nat); omega))⟩ rfl rfl ?_
    refine s_X9_yearEnd hL r1 (by omega) (by omega) (fun y39 => ?_) (fun y38 => absurd y38 (by omega))
    refine zv_icmp_eq C 966 dL_law_948 rfl (fun h948 => ?_) (fun h948 => absurd h948 (by exact fun z => z (by first | rfl | omega)))
    exact zv_widen (by omega) (by omega) (kk _ _ _ _ _ _ _ _ _ (lR_fr h (fun o j p1 p2 => zsF_ne (by omega)) (fun _ _ _ _ _ => rfl)))
  · have e111 : A2 111 = AI 111 := (yr.2.2.1 111 (by omega) (by omega) (by omega)).trans (kp.1 111 (by omega)).2.2
    have e14 : F2 100 14 = FI 100 14 := (yr.2.1 100 14 (by omega) (by omega) (by omega)).trans (kp.2.1 100 14 (by omega) (by omega))
    have hl1 := lRl_keep h.1 r7.1 r7.2 kp
    have gT : ∀ k, k < 200 → T2 k = T1 k ∧ FR2 k = FR1 k := fun k a => yr.1 k (by omega)
    have hL : mLay T2 FR2 := by
      unfold mLay
      rw [(gT 100 (by omega)).1, (gT 101 (by omega)).1, (gT 111 (by omega)).1, (gT 112 (by omega)).1, (gT 113 (by omega)).1, (gT 116 (by omega)).1, (gT 117 (by omega)).1, (gT 118 (by omega)).1, (gT 119 (by omega)).1, (gT 120 (by omega)).1, (gT 121 (by omega)).1, (gT 122 (by omega)).1, (gT 123 (by omega)).1, (gT 124 (by omega)).1, (gT 100 (by omega)).2]
      exact hl1.2.2.2.2.2.1
    refine zv_aload_n C dL_law_944 rfl rfl ?_
    refine zv_cVi0_0 C dL_law_945 k_X9_yearEnd l_L_107 hL.1 rfl ⟨(by first | exact Nat.le_of_ble_eq_true rfl | (show _ ≤ (601024 : Nat); omega) | (show _ ≤ (7293034 : Nat); omega)), (by first | exact Nat.le_of_ble_eq_true rfl | (show _ ≤ (601024 : Nat); omega) | (show _ ≤ (7293034 : Nat); omega))⟩ ⟨rfl, rfl⟩ ⟨(by first | exact Nat.le_of_ble_eq_true rfl | (show _ ≤ (601024 : Nat); omega) | (show _ ≤ (7293034 : Nat); omega)), (by first | exact Nat.le_of_ble_eq_true rfl | (show _ ≤ (601024 : Nat); omega) | (show _ ≤ (7293034 : Nat); omega))⟩ rfl rfl ?_
    refine s_X9_yearEnd hL (by rw [e111]; exact r1) (by rw [e14]; omega) (by rw [e14]; omega) (fun y39 => absurd y39 (by rw [e111]; omega)) (fun y38 Sx qx hS A3 fr => ?_)
    rw [e111]
    refine zv_icmp_eq C 966 dL_law_948 rfl (fun h948 => ?_) (fun h948 => absurd h948 (by exact fun z => z (by first | rfl | omega)))
    exact zv_widen (by omega) (by omega) (kk _ _ _ _ _ _ _ _ _ (lR_year h kp yr hd2 hc2 hB2 hs2 kb ck y0 hS fr))
set_option maxRecDepth 20000 in
theorem law_19 {nm : String} {G : zG} (C : zCx (M_law nm) zPF G) {b L : Nat} {xs : Nat → Int32} (S : zScr b L xs G) (E : zExs G) {T : zTt} {FR : zFR} {AR : zAR} {FI : zFI} {AI : zAI} {B D : Nat} {i : Int} {w5 w6 : Option zVal} {k n : Nat} (h : lR T FR AR FI AI B D) (i0 : 0 ≤ i) (i6 : i + 6 ≤ L) (iL : L ≤ 3072) (hk : k + 29 ≤ 601024) (hn : n + 979 ≤ 7293034) (kk : ∀ (w5 w6 : Option zVal) (T : zTt) (FR : zFR) (AR : zAR) (FI : zFI) (AI : zAI) (B D : Nat), lR T FR AR FI AI B D → zV G 966 [some (zA 99), some (zR 0), some (zR 100), some (zR 90), some (zI i), w5, w6] [] T FR AR FI AI (k + 29) (n + 979)) : zV G 953 [some (zA 99), some (zR 0), some (zR 100), some (zR 90), some (zI i), w5, w6] [] T FR AR FI AI k n := by
  obtain ⟨⟨gBD, hd, hc, hB, hD, hL, h90, hs, hsl⟩, ⟨t1, t2, t3, t4⟩, ⟨r1, r2, r3, r4, r5, r6, r7, r8, r9⟩⟩ := id h
  have hW := r1.1
  have gB : 14 ≤ B := by omega
  have b0 := mG_b r1
  by_cases c0 : FI 100 14 = 0
  · refine zv_aload_n C dL_law_953 rfl rfl ?_
    refine zv_cVi0_0 C dL_law_954 k_X8_undo l_L_108 hd.1 rfl ⟨(by first | exact Nat.le_of_ble_eq_true rfl | (show _ ≤ (601024 : Nat); omega) | (show _ ≤ (7293034 : Nat); omega)), (by first | exact Nat.le_of_ble_eq_true rfl | (show _ ≤ (601024 : Nat); omega) | (show _ ≤ (7293034 : Nat); omega))⟩ ⟨rfl, rfl⟩ ⟨(by first | exact Nat.le_of_ble_eq_true rfl | (show _ ≤ (601024 : Nat); omega) | (show _ ≤ (7293034 : Nat); omega)), (by first | exact Nat.le_of_ble_eq_true rfl | (show _ ≤ (601024 : Nat); omega) | (show _ ≤ (7293034 : Nat); omega))⟩ rfl rfl ?_
    refine s_X8_undo (N := AI 111) hd hB hD r7.1 r7.2 (by omega) (by omega) (fun z => absurd (r5.trans c0) z) (fun z => absurd (r5.trans c0) z) (by omega) (by omega) (by omega) (by omega) (fun _ => ?_) (fun z => absurd (r5.trans c0) z)
    refine zv_aload_n C dL_law_957 rfl rfl ?_
    refine zv_cVi0_0 C dL_law_958 k_X9_undo l_L_111 hL.1 rfl ⟨(by first | exact Nat.le_of_ble_eq_true rfl | (show _ ≤ (601024 : Nat); omega) | (show _ ≤ (7293034 : Nat); omega)), (by first | exact Nat.le_of_ble_eq_true rfl | (show _ ≤ (601024 : Nat); omega) | (show _ ≤ (7293034 : Nat); omega))⟩ ⟨rfl, rfl⟩ ⟨(by first | exact Nat.le_of_ble_eq_true rfl | (show _ ≤ (601024 : Nat); omega) | (show _ ≤ (7293034 : Nat); omega)), (by first | exact Nat.le_of_ble_eq_true rfl | (show _ ≤ (601024 : Nat); omega) | (show _ ≤ (7293034 : Nat); omega))⟩ rfl rfl ?_
    refine s_X9_undo hL (by omega) (by omega) (fun z0 => ?_) (fun z0 => absurd c0 z0)
    refine zv_icmp_eq C 966 dL_law_961 rfl (fun h961 => ?_) (fun h961 => absurd h961 (by exact fun z => z (by first | rfl | omega)))
    exact zv_widen (by omega) (by omega) (kk _ _ _ _ _ _ _ _ _ (lR_fr h (fun o j p1 p2 => zsF_ne (by omega)) (fun _ _ _ _ _ => rfl)))
  · obtain ⟨qN, hqN⟩ : ∃ qN : Nat, (qN : Int) = FI 100 14 - 1 := ⟨(FI 100 14 - 1).toNat, by omega⟩
    obtain ⟨q1, q2, q3, q4, q5⟩ := r8 qN (by omega)
    have ex : sIx FI qN = (FI 14 1 + 9) % 10 := by unfold sIx; omega
    have bx := sIx_b FI qN
    have cx := sl_b bx.1 bx.2
    have hB2 : bLay T FR (sl (sIx FI qN)) := by
      rcases hsl _ bx.1 bx.2 with ⟨-, z⟩ | ⟨z, -⟩
      · exact z
      · rw [z] at q1; cases q1
    have bN := mG_b q3
    refine zv_aload_n C dL_law_953 rfl rfl ?_
    refine zv_cVi0_0 C dL_law_954 k_X8_undo l_L_108 hd.1 rfl ⟨(by first | exact Nat.le_of_ble_eq_true rfl | (show _ ≤ (601024 : Nat); omega) | (show _ ≤ (7293034 : Nat); omega)), (by first | exact Nat.le_of_ble_eq_true rfl | (show _ ≤ (601024 : Nat); omega) | (show _ ≤ (7293034 : Nat); omega))⟩ ⟨rfl, rfl⟩ ⟨(by first | exact Nat.le_of_ble_eq_true rfl | (show _ ≤ (601024 : Nat); omega) | (show _ ≤ (7293034 : Nat); omega)), (by first | exact Nat.le_of_ble_eq_true rfl | (show _ ≤ (601024 : Nat); omega) | (show _ ≤ (7293034 : Nat); omega))⟩ rfl rfl ?_
    refine s_X8_undo (N := sRow AI (FI 100 14 - 1).toNat) hd hB hB2 r7.1 r7.2 (by omega) (by omega) (fun _ => by rw [← ex]; exact q1) (fun _ => by rw [show (FI 100 14 - 1).toNat = qN by omega]; exact q2) (by rw [show (FI 100 14 - 1).toNat = qN by omega]; omega) (by omega) (by omega) (by omega) (fun z => absurd (r5.symm.trans z) c0) (fun _ F1 A1 f1 kb => ?_)
    have e14 : F1 100 14 = FI 100 14 := (f1.1 100 14 (by omega)).trans (by rw [zsF_ne (by omega), zsF_ne (by omega)])
    refine zv_aload_n C dL_law_957 rfl rfl ?_
    refine zv_cVi0_0 C dL_law_958 k_X9_undo l_L_111 hL.1 rfl ⟨(by first | exact Nat.le_of_ble_eq_true rfl | (show _ ≤ (601024 : Nat); omega) | (show _ ≤ (7293034 : Nat); omega)), (by first | exact Nat.le_of_ble_eq_true rfl | (show _ ≤ (601024 : Nat); omega) | (show _ ≤ (7293034 : Nat); omega))⟩ ⟨rfl, rfl⟩ ⟨(by first | exact Nat.le_of_ble_eq_true rfl | (show _ ≤ (601024 : Nat); omega) | (show _ ≤ (7293034 : Nat); omega)), (by first | exact Nat.le_of_ble_eq_true rfl | (show _ ≤ (601024 : Nat); omega) | (show _ ≤ (7293034 : Nat); omega))⟩ rfl rfl ?_
    refine s_X9_undo hL (by rw [e14]; omega) (by rw [e14]; omega) (fun z0 => absurd z0 (by rw [e14]; exact c0)) (fun z0 => ?_)
    rw [e14]
    refine zv_icmp_eq C 966 dL_law_961 rfl (fun h961 => ?_) (fun h961 => absurd h961 (by exact fun z => z (by first | rfl | omega)))
    exact zv_widen (by omega) (by omega) (kk _ _ _ _ _ _ _ _ _ (lR_undo h c0 f1 kb))
set_option maxRecDepth 20000 in
theorem law_2 {nm : String} {G : zG} (C : zCx (M_law nm) zPF G) {b L : Nat} {xs : Nat → Int32} (S : zScr b L xs G) (E : zExs G) {T : zTt} {FR : zFR} {AR : zAR} {FI : zFI} {AI : zAI} {B D : Nat} {i : Int} {w5 w6 : Option zVal} {k n : Nat} (h : lR T FR AR FI AI B D) (i0 : 0 ≤ i) (i6 : i + 6 ≤ L) (iL : L ≤ 3072) (hk : k + 29 ≤ 601024) (hn : n + 979 ≤ 7293034) (kk : ∀ (w5 w6 : Option zVal) (T : zTt) (FR : zFR) (AR : zAR) (FI : zFI) (AI : zAI) (B D : Nat), lR T FR AR FI AI B D → zV G 966 [some (zA 99), some (zR 0), some (zR 100), some (zR 90), some (zI i), w5, w6] [] T FR AR FI AI (k + 29) (n + 979)) : zV G 234 [some (zA 99), some (zR 0), some (zR 100), some (zR 90), some (zI i), w5, w6] [] T FR AR FI AI k n := by
  obtain ⟨⟨gBD, hd, hc, hB, hD, hL, h90, hs, hsl⟩, ⟨t1, t2, t3, t4⟩, ⟨r1, r2, r3, r4, r5, r6, r7, r8, r9⟩⟩ := id h
  have hW := r1.1
  have gB : 14 ≤ B := by omega
  have b0 := mG_b r1
  have hz : ∀ j : Int, 0 ≤ j → j < 1395 → zfl (AI 112) 0 1395 0 j = 0 := fun j p q => if_pos ⟨p, q⟩
  refine zv_aload_n C dL_law_234 rfl rfl ?_
  refine zv_cVi0_0 C dL_law_235 k_X8_text l_L_32 hd.1 rfl ⟨(by first | exact Nat.le_of_ble_eq_true rfl | (show _ ≤ (601024 : Nat); omega) | (show _ ≤ (7293034 : Nat); omega)), (by first | exact Nat.le_of_ble_eq_true rfl | (show _ ≤ (601024 : Nat); omega) | (show _ ≤ (7293034 : Nat); omega))⟩ ⟨rfl, rfl⟩ ⟨(by first | exact Nat.le_of_ble_eq_true rfl | (show _ ≤ (601024 : Nat); omega) | (show _ ≤ (7293034 : Nat); omega)), (by first | exact Nat.le_of_ble_eq_true rfl | (show _ ≤ (601024 : Nat); omega) | (show _ ≤ (7293034 : Nat); omega))⟩ rfl rfl ?_
  refine s_X8_text (b := AI 101) (n := FI 100 2) (N0 := zfl (AI 112) 0 1395 0) hd hD (by omega) t1 t2.1 t2.2 t3 hz (fun FR1 F1 A1 N L9 p hd1 hR hF hA f1 f2 f3 hr kb h2 hk1 f8 => ?_) (fun FR1 F1 A1 N L9 p pl hd1 hR hF hA f1 hr hlf => ?_)
  · have hL := (lRl_fr h.1 (Or.inr ⟨rfl, rfl⟩) hd1 hR).2.2.2.2.2.1
    have e2 : F1 100 2 = FI 100 2 := hF 100 2 (by omega) (by omega) (by omega) (by omega)
    have e101 : A1 101 = AI 101 := hA 101 (by omega) (by omega)
    have e112 : A1 112 = AI 112 := hA 112 (by omega) (by omega)
    have e14 : F1 100 14 = FI 100 14 := hF 100 14 (by omega) (by omega) (by omega) (by omega)
    refine zv_aload_n C dL_law_238 rfl rfl ?_
    refine zv_cVi0_0 C dL_law_239 k_X9_text l_L_36 hL.1 rfl ⟨(by first | exact Nat.le_of_ble_eq_true rfl | (show _ ≤ (601024 : Nat); omega) | (show _ ≤ (7293034 : Nat); omega)), (by first | exact Nat.le_of_ble_eq_true rfl | (show _ ≤ (601024 : Nat); omega) | (show _ ≤ (7293034 : Nat); omega))⟩ ⟨rfl, rfl⟩ ⟨(by first | exact Nat.le_of_ble_eq_true rfl | (show _ ≤ (601024 : Nat); omega) | (show _ ≤ (7293034 : Nat); omega)), (by first | exact Nat.le_of_ble_eq_true rfl | (show _ ≤ (601024 : Nat); omega) | (show _ ≤ (7293034 : Nat); omega))⟩ rfl rfl ?_
    refine s_X9_text hL (by rw [e2]; omega) (by rw [e2]; omega) (by rw [e101]; exact t4) (fun F2 N2 L2 p2 hr2 hL2 hk2 zx x8 x14 => ?_) (fun F2 M2 N2 L2 p2 fv pl2 hr2 hl2 zx x8 x14 => ?_)
    · rw [e101, e2, e112] at hr2
      rw [e101, e2] at hk2
      have u := (text_uni hr hr2).1 ⟨h2, hk1⟩ ⟨hL2, hk2⟩
      obtain ⟨u1, u2⟩ := u
      subst u2
      refine zv_icmp_eq C 966 dL_law_242 rfl (fun h242 => ?_) (fun h242 => absurd h242 (by exact fun z => z (by first | rfl | omega)))
      exact zv_widen (by omega) (by omega) (kk _ _ _ _ _ _ _ _ _ (lR_textok h hd1 hR hA f1 f2 f3 kb (tRun_inv t2.1 hz _ N p hr).1 (by omega) f8 zx x8 x14))
    · exfalso; rw [e101, e2, e112] at hr2; rw [e101, e2] at hl2; exact (text_uni hr hr2).2.1 ⟨h2, hk1⟩ _ _ hl2
  · have hL := (lRl_fr h.1 (Or.inl ⟨rfl, rfl⟩) hd1 hR).2.2.2.2.2.1
    have e2 : F1 100 2 = FI 100 2 := hF 100 2 (by omega) (by omega) (by omega)
    have e101 : A1 101 = AI 101 := hA 101 (by omega) (by omega)
    have e112 : A1 112 = AI 112 := hA 112 (by omega) (by omega)
    have e14 : F1 100 14 = FI 100 14 := hF 100 14 (by omega) (by omega) (by omega)
    refine zv_aload_n C dL_law_238 rfl rfl ?_
    refine zv_cVi0_0 C dL_law_239 k_X9_text l_L_36 hL.1 rfl ⟨(by first | exact Nat.le_of_ble_eq_true rfl | (show _ ≤ (601024 : Nat); omega) | (show _ ≤ (7293034 : Nat); omega)), (by first | exact Nat.le_of_ble_eq_true rfl | (show _ ≤ (601024 : Nat); omega) | (show _ ≤ (7293034 : Nat); omega))⟩ ⟨rfl, rfl⟩ ⟨(by first | exact Nat.le_of_ble_eq_true rfl | (show _ ≤ (601024 : Nat); omega) | (show _ ≤ (7293034 : Nat); omega)), (by first | exact Nat.le_of_ble_eq_true rfl | (show _ ≤ (601024 : Nat); omega) | (show _ ≤ (7293034 : Nat); omega))⟩ rfl rfl ?_
    refine s_X9_text hL (by rw [e2]; omega) (by rw [e2]; omega) (by rw [e101]; exact t4) (fun F2 N2 L2 p2 hr2 hL2 hk2 zx x8 x14 => ?_) (fun F2 M2 N2 L2 p2 fv pl2 hr2 hl2 zx x8 x14 => ?_)
    · exfalso; rw [e101, e2, e112] at hr2; rw [e101, e2] at hk2; exact (text_uni hr hr2).2.2.1 _ _ hlf ⟨hL2, hk2⟩
    · rw [e101, e2, e112] at hr2
      rw [e101, e2] at hl2
      have u := (text_uni hr hr2).2.2.2 _ _ _ _ hlf hl2
      obtain ⟨u1, u2⟩ := u
      refine zv_icmp_eq C 966 dL_law_242 rfl (fun h242 => ?_) (fun h242 => absurd h242 (by exact fun z => z (by first | rfl | omega)))
      exact zv_widen (by omega) (by omega) (kk _ _ _ _ _ _ _ _ _ (lR_textno h hd1 hR hF hA f1 zx (by rw [x8]; exact u2.symm) x14))
