set_option maxRecDepth 20000 in
theorem law_12 {nm : String} {G : zG} (C : zCx (M_law nm) zPF G) {b L : Nat} {xs : Nat → Int32} (S : zScr b L xs G) (E : zExs G) {T : zTt} {FR : zFR} {AR : zAR} {FI : zFI} {AI : zAI} {B D : Nat} {i : Int} {w5 w6 : Option zVal} {k n : Nat} (h : lR T FR AR FI AI B D) (i0 : 0 ≤ i) (i6 : i + 6 ≤ L) (iL : L ≤ 3072) (hk : k + 29 ≤ 601024) (hn : n + 979 ≤ 7293034) (kk : ∀ (w5 w6 : Option zVal) (T : zTt) (FR : zFR) (AR : zAR) (FI : zFI) (AI : zAI) (B D : Nat), lR T FR AR FI AI B D → zV G 966 [some (zA 99), some (zR 0), some (zR 100), some (zR 90), some (zI i), w5, w6] [] T FR AR FI AI (k + 29) (n + 979)) : zV G 642 [some (zA 99), some (zR 0), some (zR 100), some (zR 90), some (zI i), w5, w6] [] T FR AR FI AI k n := by
  obtain ⟨⟨gBD, hd, hc, hB, hD, hL, h90, hs, hsl⟩, ⟨t1, t2, t3, t4⟩, ⟨r1, r2, r3, r4, r5, r6, r7, r8, r9⟩⟩ := id h
  have hW := r1.1
  have gB : 14 ≤ B := by omega
  have b0 := mG_b r1
  refine zv_aload_n C dL_law_642 rfl rfl ?_
  refine zv_aload_n C dL_law_643 rfl rfl ?_
  refine zv_iload C dL_law_644 rfl ?_
  refine zv_iconst C dL_law_646 rfl ?_
  refine zv_iadd C dL_law_647 ⟨by omega, by omega⟩ ?_
  refine zv_sld C S dL_law_648 ⟨by omega, by omega⟩ ?_
  refine zv_aload_n C dL_law_649 rfl rfl ?_
  refine zv_iload C dL_law_650 rfl ?_
  refine zv_iconst C dL_law_652 rfl ?_
  refine zv_iadd C dL_law_653 ⟨by omega, by omega⟩ ?_
  refine zv_sld C S dL_law_654 ⟨by omega, by omega⟩ ?_
  refine zv_cVi0_2 C dL_law_655 k_X8_needs l_L_79 hd.1 rfl ⟨(by first | exact Nat.le_of_ble_eq_true rfl | (show _ ≤ (601024 : Nat); omega) | (show _ ≤ (7293034 : Nat); omega)), (by first | exact Nat.le_of_ble_eq_true rfl | (show _ ≤ (601024 : Nat); omega) | (show _ ≤ (7293034 : Nat); omega))⟩ ⟨rfl, rfl⟩ ⟨(by first | exact Nat.le_of_ble_eq_true rfl | (show _ ≤ (601024 : Nat); omega) | (show _ ≤ (7293034 : Nat); omega)), (by first | exact Nat.le_of_ble_eq_true rfl | (show _ ≤ (601024 : Nat); omega) | (show _ ≤ (7293034 : Nat); omega))⟩ rfl rfl ?_
  refine s_X8_needs hd hc hB r2 hW gB (fun no => ?_) (fun ok en0 F1 A1 cf => ?_) (fun ok ne0 ne F1 A1 cf => ?_) (fun ok rv ra rb en nen F1 A1 cf => ?_)
  · refine zv_aload_n C dL_law_658 rfl rfl ?_
    refine zv_aload_n C dL_law_659 rfl rfl ?_
    refine zv_iload C dL_law_660 rfl ?_
    refine zv_iconst C dL_law_662 rfl ?_
    refine zv_iadd C dL_law_663 ⟨by omega, by omega⟩ ?_
    refine zv_sld C S dL_law_664 ⟨by omega, by omega⟩ ?_
    refine zv_aload_n C dL_law_665 rfl rfl ?_
    refine zv_iload C dL_law_666 rfl ?_
    refine zv_iconst C dL_law_668 rfl ?_
    refine zv_iadd C dL_law_669 ⟨by omega, by omega⟩ ?_
    refine zv_sld C S dL_law_670 ⟨by omega, by omega⟩ ?_
    refine zv_cVi0_2 C dL_law_671 k_X9_needs l_L_82 hL.1 rfl ⟨(by first | exact Nat.le_of_ble_eq_true rfl | (show _ ≤ (601024 : Nat); omega) | (show _ ≤ (7293034 : Nat); omega)), (by first | exact Nat.le_of_ble_eq_true rfl | (show _ ≤ (601024 : Nat); omega) | (show _ ≤ (7293034 : Nat); omega))⟩ ⟨rfl, rfl⟩ ⟨(by first | exact Nat.le_of_ble_eq_true rfl | (show _ ≤ (601024 : Nat); omega) | (show _ ≤ (7293034 : Nat); omega)), (by first | exact Nat.le_of_ble_eq_true rfl | (show _ ≤ (601024 : Nat); omega) | (show _ ≤ (7293034 : Nat); omega))⟩ rfl rfl ?_
    refine s_X9_needs hL hW (fun no2 => ?_) (fun g1 g2 A2 z2 ne2 => absurd ⟨g1, g2⟩ no) (fun g1 g2 A2 z2 rr q1 q2 q3 q4 => absurd ⟨g1, g2⟩ no)
    refine zv_icmp_eq C 966 dL_law_674 rfl (fun h674 => ?_) (fun h674 => absurd h674 (by exact fun z => z (by first | rfl | omega)))
    exact zv_widen (by omega) (by omega) (kk _ _ _ _ _ _ _ _ _ (lR_fr h (fun o j p1 p2 => zsF_ne (by omega)) (fun _ _ _ _ _ => rfl)))
  · have e111 : A1 111 = AI 111 := cf.1 111 (by omega)
    have hW1 : mW (A1 111) (AI 111 3).toNat (AI 111 4).toNat := by rw [e111]; exact hW
    refine zv_aload_n C dL_law_658 rfl rfl ?_
    refine zv_aload_n C dL_law_659 rfl rfl ?_
    refine zv_iload C dL_law_660 rfl ?_
    refine zv_iconst C dL_law_662 rfl ?_
    refine zv_iadd C dL_law_663 ⟨by omega, by omega⟩ ?_
    refine zv_sld C S dL_law_664 ⟨by omega, by omega⟩ ?_
    refine zv_aload_n C dL_law_665 rfl rfl ?_
    refine zv_iload C dL_law_666 rfl ?_
    refine zv_iconst C dL_law_668 rfl ?_
    refine zv_iadd C dL_law_669 ⟨by omega, by omega⟩ ?_
    refine zv_sld C S dL_law_670 ⟨by omega, by omega⟩ ?_
    refine zv_cVi0_2 C dL_law_671 k_X9_needs l_L_82 hL.1 rfl ⟨(by first | exact Nat.le_of_ble_eq_true rfl | (show _ ≤ (601024 : Nat); omega) | (show _ ≤ (7293034 : Nat); omega)), (by first | exact Nat.le_of_ble_eq_true rfl | (show _ ≤ (601024 : Nat); omega) | (show _ ≤ (7293034 : Nat); omega))⟩ ⟨rfl, rfl⟩ ⟨(by first | exact Nat.le_of_ble_eq_true rfl | (show _ ≤ (601024 : Nat); omega) | (show _ ≤ (7293034 : Nat); omega)), (by first | exact Nat.le_of_ble_eq_true rfl | (show _ ≤ (601024 : Nat); omega) | (show _ ≤ (7293034 : Nat); omega))⟩ rfl rfl ?_
    refine s_X9_needs hL hW1 (fun no2 => ?_) (fun g1 g2 A2 z2 ne2 => ?_) (fun g1 g2 A2 z2 rr q1 q2 q3 q4 => ?_)
    · exfalso; rw [e111] at no2; exact no2 ok
    · exfalso; rw [e111] at ne2; exact ne2 (enough_mono hW ok.1.1 (by omega) (by omega) (by omega) (by omega) en0)
    · rw [e111] at q3 q4
      have eq := least_uni hW ok.1.1 (by omega) (by omega) (by omega) q1 q2 en0 (Or.inl rfl) q3 q4
      refine zv_icmp_eq C 966 dL_law_674 rfl (fun h674 => ?_) (fun h674 => absurd h674 (by exact fun z => z (by first | rfl | omega)))
      exact zv_widen (by omega) (by omega) (kk _ _ _ _ _ _ _ _ _ (lR_fr h (fun o j p1 p2 => by rw [zsF_ne (by omega)]; exact cf.2 o j (Or.inl p1)) (fun a p1 p2 p3 p4 => by rw [z2 a (by omega)]; exact cf.1 a p1)))
  · have e111 : A1 111 = AI 111 := cf.1 111 (by omega)
    have hW1 : mW (A1 111) (AI 111 3).toNat (AI 111 4).toNat := by rw [e111]; exact hW
    refine zv_aload_n C dL_law_658 rfl rfl ?_
    refine zv_aload_n C dL_law_659 rfl rfl ?_
    refine zv_iload C dL_law_660 rfl ?_
    refine zv_iconst C dL_law_662 rfl ?_
    refine zv_iadd C dL_law_663 ⟨by omega, by omega⟩ ?_
    refine zv_sld C S dL_law_664 ⟨by omega, by omega⟩ ?_
    refine zv_aload_n C dL_law_665 rfl rfl ?_
    refine zv_iload C dL_law_666 rfl ?_
    refine zv_iconst C dL_law_668 rfl ?_
    refine zv_iadd C dL_law_669 ⟨by omega, by omega⟩ ?_
    refine zv_sld C S dL_law_670 ⟨by omega, by omega⟩ ?_
    refine zv_cVi0_2 C dL_law_671 k_X9_needs l_L_82 hL.1 rfl ⟨(by first | exact Nat.le_of_ble_eq_true rfl | (show _ ≤ (601024 : Nat); omega) | (show _ ≤ (7293034 : Nat); omega)), (by first | exact Nat.le_of_ble_eq_true rfl | (show _ ≤ (601024 : Nat); omega) | (show _ ≤ (7293034 : Nat); omega))⟩ ⟨rfl, rfl⟩ ⟨(by first | exact Nat.le_of_ble_eq_true rfl | (show _ ≤ (601024 : Nat); omega) | (show _ ≤ (7293034 : Nat); omega)), (by first | exact Nat.le_of_ble_eq_true rfl | (show _ ≤ (601024 : Nat); omega) | (show _ ≤ (7293034 : Nat); omega))⟩ rfl rfl ?_
    refine s_X9_needs hL hW1 (fun no2 => ?_) (fun g1 g2 A2 z2 ne2 => ?_) (fun g1 g2 A2 z2 rr q1 q2 q3 q4 => ?_)
    · exfalso; rw [e111] at no2; exact no2 ok
    · skip
      refine zv_icmp_eq C 966 dL_law_674 rfl (fun h674 => ?_) (fun h674 => absurd h674 (by exact fun z => z (by first | rfl | omega)))
      exact zv_widen (by omega) (by omega) (kk _ _ _ _ _ _ _ _ _ (lR_fr h (fun o j p1 p2 => by rw [zsF_ne (by omega)]; exact cf.2 o j (Or.inl p1)) (fun a p1 p2 p3 p4 => by rw [z2 a (by omega)]; exact cf.1 a p1)))
    · exfalso; rw [e111] at q3; exact ne (enough_mono hW ok.1.1 (by omega) q1 q2 (by omega) q3)
  · have e111 : A1 111 = AI 111 := cf.1 111 (by omega)
    have hW1 : mW (A1 111) (AI 111 3).toNat (AI 111 4).toNat := by rw [e111]; exact hW
    refine zv_aload_n C dL_law_658 rfl rfl ?_
    refine zv_aload_n C dL_law_659 rfl rfl ?_
    refine zv_iload C dL_law_660 rfl ?_
    refine zv_iconst C dL_law_662 rfl ?_
    refine zv_iadd C dL_law_663 ⟨by omega, by omega⟩ ?_
    refine zv_sld C S dL_law_664 ⟨by omega, by omega⟩ ?_
    refine zv_aload_n C dL_law_665 rfl rfl ?_
    refine zv_iload C dL_law_666 rfl ?_
    refine zv_iconst C dL_law_668 rfl ?_
    refine zv_iadd C dL_law_669 ⟨by omega, by omega⟩ ?_
    refine zv_sld C S dL_law_670 ⟨by omega, by omega⟩ ?_
    refine zv_cVi0_2 C dL_law_671 k_X9_needs l_L_82 hL.1 rfl ⟨(by first | exact Nat.le_of_ble_eq_true rfl | (show _ ≤ (601024 : Nat); omega) | (show _ ≤ (7293034 : Nat); omega)), (by first | exact Nat.le_of_ble_eq_true rfl | (show _ ≤ (601024 : Nat); omega) | (show _ ≤ (7293034 : Nat); omega))⟩ ⟨rfl, rfl⟩ ⟨(by first | exact Nat.le_of_ble_eq_true rfl | (show _ ≤ (601024 : Nat); omega) | (show _ ≤ (7293034 : Nat); omega)), (by first | exact Nat.le_of_ble_eq_true rfl | (show _ ≤ (601024 : Nat); omega) | (show _ ≤ (7293034 : Nat); omega))⟩ rfl rfl ?_
    refine s_X9_needs hL hW1 (fun no2 => ?_) (fun g1 g2 A2 z2 ne2 => ?_) (fun g1 g2 A2 z2 rr q1 q2 q3 q4 => ?_)
    · exfalso; rw [e111] at no2; exact no2 ok
    · exfalso; rw [e111] at ne2; exact ne2 (enough_mono hW ok.1.1 (by omega) (by omega) (by omega) (by omega) en)
    · rw [e111] at q3 q4
      have eq := least_uni hW ok.1.1 (by omega) (by omega) (by omega) q1 q2 en (Or.inr nen) q3 q4
      refine zv_icmp_eq C 966 dL_law_674 rfl (fun h674 => ?_) (fun h674 => absurd h674 (by exact fun z => z (by first | rfl | omega)))
      exact zv_widen (by omega) (by omega) (kk _ _ _ _ _ _ _ _ _ (lR_fr h (fun o j p1 p2 => by rw [zsF_ne (by omega)]; exact cf.2 o j (Or.inl p1)) (fun a p1 p2 p3 p4 => by rw [z2 a (by omega)]; exact cf.1 a p1)))
set_option maxRecDepth 20000 in
theorem law_5 {nm : String} {G : zG} (C : zCx (M_law nm) zPF G) {b L : Nat} {xs : Nat → Int32} (S : zScr b L xs G) (E : zExs G) {T : zTt} {FR : zFR} {AR : zAR} {FI : zFI} {AI : zAI} {B D : Nat} {i : Int} {w5 w6 : Option zVal} {k n : Nat} (h : lR T FR AR FI AI B D) (i0 : 0 ≤ i) (i6 : i + 6 ≤ L) (iL : L ≤ 3072) (hk : k + 29 ≤ 601024) (hn : n + 979 ≤ 7293034) (kk : ∀ (w5 w6 : Option zVal) (T : zTt) (FR : zFR) (AR : zAR) (FI : zFI) (AI : zAI) (B D : Nat), lR T FR AR FI AI B D → zV G 966 [some (zA 99), some (zR 0), some (zR 100), some (zR 90), some (zI i), w5, w6] [] T FR AR FI AI (k + 29) (n + 979)) : zV G 285 [some (zA 99), some (zR 0), some (zR 100), some (zR 90), some (zI i), w5, w6] [] T FR AR FI AI k n := by
  obtain ⟨⟨gBD, hd, hc, hB, hD, hL, h90, hs, hsl⟩, ⟨t1, t2, t3, t4⟩, ⟨r1, r2, r3, r4, r5, r6, r7, r8, r9⟩⟩ := id h
  have hW := r1.1
  have gB : 14 ≤ B := by omega
  have b0 := mG_b r1
  refine zv_aload_n C dL_law_285 rfl rfl ?_
  refine zv_aload_n C dL_law_286 rfl rfl ?_
  refine zv_iload C dL_law_287 rfl ?_
  refine zv_iconst C dL_law_289 rfl ?_
  refine zv_iadd C dL_law_290 ⟨by omega, by omega⟩ ?_
  refine zv_sld C S dL_law_291 ⟨by omega, by omega⟩ ?_
  refine zv_aload_n C dL_law_292 rfl rfl ?_
  refine zv_iload C dL_law_293 rfl ?_
  refine zv_iconst C dL_law_295 rfl ?_
  refine zv_iadd C dL_law_296 ⟨by omega, by omega⟩ ?_
  refine zv_sld C S dL_law_297 ⟨by omega, by omega⟩ ?_
  refine zv_aload_n C dL_law_298 rfl rfl ?_
  refine zg_callSW C E (as := [zR 0, zI (sv xs (i + 1)), zI (sv xs (i + 2)), zR 90]) (M' := M_L_item) dL_law_299 kh_L_item l_L_46 rfl ⟨(by first | exact Nat.le_of_ble_eq_true rfl | (show _ ≤ (601024 : Nat); omega) | (show _ ≤ (7293034 : Nat); omega)), (by first | exact Nat.le_of_ble_eq_true rfl | (show _ ≤ (601024 : Nat); omega) | (show _ ≤ (7293034 : Nat); omega))⟩ ⟨by show k + 1 ≤ 601024; omega, by show n + 6 ≤ 7293034; omega⟩ rfl ?_
  refine s_L_item h90 hd hB r2 hW (fun ok => ?_) (fun no => ?_)
  · have e111 : zsA AI 90 0 (aItem (AI 111) (sv xs (i + 1)) (sv xs (i + 2))) 111 = AI 111 := zsA_neF (by omega)
    have hW1 : mW (zsA AI 90 0 (aItem (AI 111) (sv xs (i + 1)) (sv xs (i + 2))) 111) (AI 111 3).toNat (AI 111 4).toNat := by rw [e111]; exact hW
    show zV G 302 [some (zA 99), some (zR 0), some (zR 100), some (zR 90), some (zI i), w5, w6] [zI 0] T FR AR FI (zsA AI 90 0 (aItem (AI 111) (sv xs (i + 1)) (sv xs (i + 2)))) (k + 1) (n + 6)
    refine zv_istore_5 C dL_law_302 rfl rfl ?_
    refine zv_aload_n C dL_law_304 rfl rfl ?_
    refine zv_aload_n C dL_law_305 rfl rfl ?_
    refine zv_iload C dL_law_306 rfl ?_
    refine zv_iconst C dL_law_308 rfl ?_
    refine zv_iadd C dL_law_309 ⟨by omega, by omega⟩ ?_
    refine zv_sld C S dL_law_310 ⟨by omega, by omega⟩ ?_
    refine zv_aload_n C dL_law_311 rfl rfl ?_
    refine zv_iload C dL_law_312 rfl ?_
    refine zv_iconst C dL_law_314 rfl ?_
    refine zv_iadd C dL_law_315 ⟨by omega, by omega⟩ ?_
    refine zv_sld C S dL_law_316 ⟨by omega, by omega⟩ ?_
    refine zv_cVi0_2 C dL_law_317 k_X9_item l_L_51 hL.1 rfl ⟨(by first | exact Nat.le_of_ble_eq_true rfl | (show _ ≤ (601024 : Nat); omega) | (show _ ≤ (7293034 : Nat); omega)), (by first | exact Nat.le_of_ble_eq_true rfl | (show _ ≤ (601024 : Nat); omega) | (show _ ≤ (7293034 : Nat); omega))⟩ ⟨rfl, rfl⟩ ⟨(by first | exact Nat.le_of_ble_eq_true rfl | (show _ ≤ (601024 : Nat); omega) | (show _ ≤ (7293034 : Nat); omega)), (by first | exact Nat.le_of_ble_eq_true rfl | (show _ ≤ (601024 : Nat); omega) | (show _ ≤ (7293034 : Nat); omega))⟩ rfl rfl ?_
    refine s_X9_item hL hW1 (fun no2 => absurd ok (by rw [e111] at no2; exact no2)) (fun ok2 => ?_)
    rw [e111]
    refine zv_istore_6 C dL_law_320 rfl rfl ?_
    refine zv_aload_n C dL_law_322 rfl rfl ?_
    refine zv_cVi0_0 C dL_law_323 k_X9_thrown l_L_52 hL.1 rfl ⟨(by first | exact Nat.le_of_ble_eq_true rfl | (show _ ≤ (601024 : Nat); omega) | (show _ ≤ (7293034 : Nat); omega)), (by first | exact Nat.le_of_ble_eq_true rfl | (show _ ≤ (601024 : Nat); omega) | (show _ ≤ (7293034 : Nat); omega))⟩ ⟨rfl, rfl⟩ ⟨(by first | exact Nat.le_of_ble_eq_true rfl | (show _ ≤ (601024 : Nat); omega) | (show _ ≤ (7293034 : Nat); omega)), (by first | exact Nat.le_of_ble_eq_true rfl | (show _ ≤ (601024 : Nat); omega) | (show _ ≤ (7293034 : Nat); omega))⟩ rfl rfl ?_
    refine s_X9_thrown hL ?_
    rw [zsF_eq]
    refine zv_iload C dL_law_326 rfl ?_
    refine zv_icmp_eq C 333 dL_law_328 rfl (fun h328 => ?_) (fun h328 => absurd h328 (by exact fun z => z (by first | rfl | omega)))
    refine zv_iload C dL_law_333 rfl ?_
    refine zv_if_ne C 350 dL_law_335 rfl (fun h => absurd h (by omega)) (fun _ => ?_)
    refine zv_aload_n C dL_law_338 rfl rfl ?_
    refine zv_iconst C dL_law_339 rfl ?_
    refine zv_laload C dL_law_340 h90 ⟨by omega, by omega⟩ ?_
    rw [zsA_eq]
    refine zv_iload C dL_law_341 rfl ?_
    refine zv_i2l C dL_law_343 ?_
    refine zv_lcmp C dL_law_344 ?_
    rw [if_neg (by omega), if_pos rfl]
    refine zv_if_eq C 350 dL_law_345 rfl (fun h345 => ?_) (fun h345 => absurd h345 (by omega))
    refine zv_goto C 966 dL_law_350 rfl ?_
    exact zv_widen (by omega) (by omega) (kk _ _ _ _ _ _ _ _ _ (lR_fr h (fun o j p1 p2 => zsF_ne (by omega)) (fun a p1 p2 p3 p4 => zsA_neF p2)))
  · skip
    show zV G 302 [some (zA 99), some (zR 0), some (zR 100), some (zR 90), some (zI i), w5, w6] [zI 1] T FR AR FI AI (k + 1) (n + 6)
    refine zv_istore_5 C dL_law_302 rfl rfl ?_
    refine zv_aload_n C dL_law_304 rfl rfl ?_
    refine zv_aload_n C dL_law_305 rfl rfl ?_
    refine zv_iload C dL_law_306 rfl ?_
    refine zv_iconst C dL_law_308 rfl ?_
    refine zv_iadd C dL_law_309 ⟨by omega, by omega⟩ ?_
    refine zv_sld C S dL_law_310 ⟨by omega, by omega⟩ ?_
    refine zv_aload_n C dL_law_311 rfl rfl ?_
    refine zv_iload C dL_law_312 rfl ?_
    refine zv_iconst C dL_law_314 rfl ?_
    refine zv_iadd C dL_law_315 ⟨by omega, by omega⟩ ?_
    refine zv_sld C S dL_law_316 ⟨by omega, by omega⟩ ?_
    refine zv_cVi0_2 C dL_law_317 k_X9_item l_L_51 hL.1 rfl ⟨(by first | exact Nat.le_of_ble_eq_true rfl | (show _ ≤ (601024 : Nat); omega) | (show _ ≤ (7293034 : Nat); omega)), (by first | exact Nat.le_of_ble_eq_true rfl | (show _ ≤ (601024 : Nat); omega) | (show _ ≤ (7293034 : Nat); omega))⟩ ⟨rfl, rfl⟩ ⟨(by first | exact Nat.le_of_ble_eq_true rfl | (show _ ≤ (601024 : Nat); omega) | (show _ ≤ (7293034 : Nat); omega)), (by first | exact Nat.le_of_ble_eq_true rfl | (show _ ≤ (601024 : Nat); omega) | (show _ ≤ (7293034 : Nat); omega))⟩ rfl rfl ?_
    refine s_X9_item hL hW (fun no2 => ?_) (fun ok2 => absurd ok2 no)
    refine zv_istore_6 C dL_law_320 rfl rfl ?_
    refine zv_aload_n C dL_law_322 rfl rfl ?_
    refine zv_cVi0_0 C dL_law_323 k_X9_thrown l_L_52 hL.1 rfl ⟨(by first | exact Nat.le_of_ble_eq_true rfl | (show _ ≤ (601024 : Nat); omega) | (show _ ≤ (7293034 : Nat); omega)), (by first | exact Nat.le_of_ble_eq_true rfl | (show _ ≤ (601024 : Nat); omega) | (show _ ≤ (7293034 : Nat); omega))⟩ ⟨rfl, rfl⟩ ⟨(by first | exact Nat.le_of_ble_eq_true rfl | (show _ ≤ (601024 : Nat); omega) | (show _ ≤ (7293034 : Nat); omega)), (by first | exact Nat.le_of_ble_eq_true rfl | (show _ ≤ (601024 : Nat); omega) | (show _ ≤ (7293034 : Nat); omega))⟩ rfl rfl ?_
    refine s_X9_thrown hL ?_
    rw [zsF_eq]
    refine zv_iload C dL_law_326 rfl ?_
    refine zv_icmp_eq C 333 dL_law_328 rfl (fun h328 => ?_) (fun h328 => absurd h328 (by exact fun z => z (by first | rfl | omega)))
    refine zv_iload C dL_law_333 rfl ?_
    refine zv_if_ne C 350 dL_law_335 rfl (fun _ => ?_) (fun h => absurd h (by omega))
    refine zv_goto C 966 dL_law_350 rfl ?_
    exact zv_widen (by omega) (by omega) (kk _ _ _ _ _ _ _ _ _ (lR_fr h (fun o j p1 p2 => zsF_ne (by omega)) (fun _ _ _ _ _ => rfl)))
set_option maxRecDepth 20000 in
theorem law_6 {nm : String} {G : zG} (C : zCx (M_law nm) zPF G) {b L : Nat} {xs : Nat → Int32} (S : zScr b L xs G) (E : zExs G) {T : zTt} {FR : zFR} {AR : zAR} {FI : zFI} {AI : zAI} {B D : Nat} {i : Int} {w5 w6 : Option zVal} {k n : Nat} (h : lR T FR AR FI AI B D) (i0 : 0 ≤ i) (i6 : i + 6 ≤ L) (iL : L ≤ 3072) (hk : k + 29 ≤ 601024) (hn : n + 979 ≤ 7293034) (kk : ∀ (w5 w6 : Option zVal) (T : zTt) (FR : zFR) (AR : zAR) (FI : zFI) (AI : zAI) (B D : Nat), lR T FR AR FI AI B D → zV G 966 [some (zA 99), some (zR 0), some (zR 100), some (zR 90), some (zI i), w5, w6] [] T FR AR FI AI (k + 29) (n + 979)) : zV G 353 [some (zA 99), some (zR 0), some (zR 100), some (zR 90), some (zI i), w5, w6] [] T FR AR FI AI k n := by
  obtain ⟨⟨gBD, hd, hc, hB, hD, hL, h90, hs, hsl⟩, ⟨t1, t2, t3, t4⟩, ⟨r1, r2, r3, r4, r5, r6, r7, r8, r9⟩⟩ := id h
  have hW := r1.1
  have gB : 14 ≤ B := by omega
  have b0 := mG_b r1
  refine zv_aload_n C dL_law_353 rfl rfl ?_
  refine zv_aload_n C dL_law_354 rfl rfl ?_
  refine zv_iload C dL_law_355 rfl ?_
  refine zv_iconst C dL_law_357 rfl ?_
  refine zv_iadd C dL_law_358 ⟨by omega, by omega⟩ ?_
  refine zv_sld C S dL_law_359 ⟨by omega, by omega⟩ ?_
  refine zv_aload_n C dL_law_360 rfl rfl ?_
  refine zv_iload C dL_law_361 rfl ?_
  refine zv_iconst C dL_law_363 rfl ?_
  refine zv_iadd C dL_law_364 ⟨by omega, by omega⟩ ?_
  refine zv_sld C S dL_law_365 ⟨by omega, by omega⟩ ?_
  refine zv_aload_n C dL_law_366 rfl rfl ?_
  refine zg_callSW C E (as := [zR 0, zI (sv xs (i + 1)), zI (sv xs (i + 2)), zR 90]) (M' := M_L_loss) dL_law_367 kh_L_loss l_L_55 rfl ⟨(by first | exact Nat.le_of_ble_eq_true rfl | (show _ ≤ (601024 : Nat); omega) | (show _ ≤ (7293034 : Nat); omega)), (by first | exact Nat.le_of_ble_eq_true rfl | (show _ ≤ (601024 : Nat); omega) | (show _ ≤ (7293034 : Nat); omega))⟩ ⟨by show k + 1 ≤ 601024; omega, by show n + 6 ≤ 7293034; omega⟩ rfl ?_
  refine s_L_loss h90 hd hB r2 hW (fun ok => ?_) (fun no => ?_)
  · have e111 : zsA AI 90 0 (mLo (AI 111) (sv xs (i + 1)) (sv xs (i + 2))) 111 = AI 111 := zsA_neF (by omega)
    have hW1 : mW (zsA AI 90 0 (mLo (AI 111) (sv xs (i + 1)) (sv xs (i + 2))) 111) (AI 111 3).toNat (AI 111 4).toNat := by rw [e111]; exact hW
    show zV G 370 [some (zA 99), some (zR 0), some (zR 100), some (zR 90), some (zI i), w5, w6] [zI 0] T FR AR FI (zsA AI 90 0 (mLo (AI 111) (sv xs (i + 1)) (sv xs (i + 2)))) (k + 1) (n + 6)
    refine zv_istore_5 C dL_law_370 rfl rfl ?_
    refine zv_aload_n C dL_law_372 rfl rfl ?_
    refine zv_aload_n C dL_law_373 rfl rfl ?_
    refine zv_iload C dL_law_374 rfl ?_
    refine zv_iconst C dL_law_376 rfl ?_
    refine zv_iadd C dL_law_377 ⟨by omega, by omega⟩ ?_
    refine zv_sld C S dL_law_378 ⟨by omega, by omega⟩ ?_
    refine zv_aload_n C dL_law_379 rfl rfl ?_
    refine zv_iload C dL_law_380 rfl ?_
    refine zv_iconst C dL_law_382 rfl ?_
    refine zv_iadd C dL_law_383 ⟨by omega, by omega⟩ ?_
    refine zv_sld C S dL_law_384 ⟨by omega, by omega⟩ ?_
    refine zv_cVi0_2 C dL_law_385 k_X9_loss l_L_57 hL.1 rfl ⟨(by first | exact Nat.le_of_ble_eq_true rfl | (show _ ≤ (601024 : Nat); omega) | (show _ ≤ (7293034 : Nat); omega)), (by first | exact Nat.le_of_ble_eq_true rfl | (show _ ≤ (601024 : Nat); omega) | (show _ ≤ (7293034 : Nat); omega))⟩ ⟨rfl, rfl⟩ ⟨(by first | exact Nat.le_of_ble_eq_true rfl | (show _ ≤ (601024 : Nat); omega) | (show _ ≤ (7293034 : Nat); omega)), (by first | exact Nat.le_of_ble_eq_true rfl | (show _ ≤ (601024 : Nat); omega) | (show _ ≤ (7293034 : Nat); omega))⟩ rfl rfl ?_
    refine s_X9_loss hL hW1 (fun no2 => absurd ok (by rw [e111] at no2; exact no2)) (fun ok2 => ?_)
    rw [e111]
    refine zv_istore_6 C dL_law_388 rfl rfl ?_
    refine zv_aload_n C dL_law_390 rfl rfl ?_
    refine zv_cVi0_0 C dL_law_391 k_X9_thrown l_L_52 hL.1 rfl ⟨(by first | exact Nat.le_of_ble_eq_true rfl | (show _ ≤ (601024 : Nat); omega) | (show _ ≤ (7293034 : Nat); omega)), (by first | exact Nat.le_of_ble_eq_true rfl | (show _ ≤ (601024 : Nat); omega) | (show _ ≤ (7293034 : Nat); omega))⟩ ⟨rfl, rfl⟩ ⟨(by first | exact Nat.le_of_ble_eq_true rfl | (show _ ≤ (601024 : Nat); omega) | (show _ ≤ (7293034 : Nat); omega)), (by first | exact Nat.le_of_ble_eq_true rfl | (show _ ≤ (601024 : Nat); omega) | (show _ ≤ (7293034 : Nat); omega))⟩ rfl rfl ?_
    refine s_X9_thrown hL ?_
    rw [zsF_eq]
    refine zv_iload C dL_law_394 rfl ?_
    refine zv_icmp_eq C 401 dL_law_396 rfl (fun h396 => ?_) (fun h396 => absurd h396 (by exact fun z => z (by first | rfl | omega)))
    refine zv_iload C dL_law_401 rfl ?_
    refine zv_if_ne C 418 dL_law_403 rfl (fun h => absurd h (by omega)) (fun _ => ?_)
    refine zv_aload_n C dL_law_406 rfl rfl ?_
    refine zv_iconst C dL_law_407 rfl ?_
    refine zv_laload C dL_law_408 h90 ⟨by omega, by omega⟩ ?_
    rw [zsA_eq]
    refine zv_iload C dL_law_409 rfl ?_
    refine zv_i2l C dL_law_411 ?_
    refine zv_lcmp C dL_law_412 ?_
    rw [if_neg (by omega), if_pos rfl]
    refine zv_if_eq C 418 dL_law_413 rfl (fun h413 => ?_) (fun h413 => absurd h413 (by omega))
    refine zv_goto C 966 dL_law_418 rfl ?_
    exact zv_widen (by omega) (by omega) (kk _ _ _ _ _ _ _ _ _ (lR_fr h (fun o j p1 p2 => zsF_ne (by omega)) (fun a p1 p2 p3 p4 => zsA_neF p2)))
  · skip
    show zV G 370 [some (zA 99), some (zR 0), some (zR 100), some (zR 90), some (zI i), w5, w6] [zI 1] T FR AR FI AI (k + 1) (n + 6)
    refine zv_istore_5 C dL_law_370 rfl rfl ?_
    refine zv_aload_n C dL_law_372 rfl rfl ?_
    refine zv_aload_n C dL_law_373 rfl rfl ?_
    refine zv_iload C dL_law_374 rfl ?_
    refine zv_iconst C dL_law_376 rfl ?_
    refine zv_iadd C dL_law_377 ⟨by omega, by omega⟩ ?_
    refine zv_sld C S dL_law_378 ⟨by omega, by omega⟩ ?_
    refine zv_aload_n C dL_law_379 rfl rfl ?_
    refine zv_iload C dL_law_380 rfl ?_
    refine zv_iconst C dL_law_382 rfl ?_
    refine zv_iadd C dL_law_383 ⟨by omega, by omega⟩ ?_
    refine zv_sld C S dL_law_384 ⟨by omega, by omega⟩ ?_
    refine zv_cVi0_2 C dL_law_385 k_X9_loss l_L_57 hL.1 rfl ⟨(by first | exact Nat.le_of_ble_eq_true rfl | (show _ ≤ (601024 : Nat); omega) | (show _ ≤ (7293034 : Nat); omega)), (by first | exact Nat.le_of_ble_eq_true rfl | (show _ ≤ (601024 : Nat); omega) | (show _ ≤ (7293034 : Nat); omega))⟩ ⟨rfl, rfl⟩ ⟨(by first | exact Nat.le_of_ble_eq_true rfl | (show _ ≤ (601024 : Nat); omega) | (show _ ≤ (7293034 : Nat); omega)), (by first | exact Nat.le_of_ble_eq_true rfl | (show _ ≤ (601024 : Nat); omega) | (show _ ≤ (7293034 : Nat); omega))⟩ rfl rfl ?_
    refine s_X9_loss hL hW (fun no2 => ?_) (fun ok2 => absurd ok2 no)
    refine zv_istore_6 C dL_law_388 rfl rfl ?_
    refine zv_aload_n C dL_law_390 rfl rfl ?_
    refine zv_cVi0_0 C dL_law_391 k_X9_thrown l_L_52 hL.1 rfl ⟨(by first | exact Nat.le_of_ble_eq_true rfl | (show _ ≤ (601024 : Nat); omega) | (show _ ≤ (7293034 : Nat); omega)), (by first | exact Nat.le_of_ble_eq_true rfl | (show _ ≤ (601024 : Nat); omega) | (show _ ≤ (7293034 : Nat); omega))⟩ ⟨rfl, rfl⟩ ⟨(by first | exact Nat.le_of_ble_eq_true rfl | (show _ ≤ (601024 : Nat); omega) | (show _ ≤ (7293034 : Nat); omega)), (by first | exact Nat.le_of_ble_eq_true rfl | (show _ ≤ (601024 : Nat); omega) | (show _ ≤ (7293034 : Nat); omega))⟩ rfl rfl ?_
    refine s_X9_thrown hL ?_
    rw [zsF_eq]
    refine zv_iload C dL_law_394 rfl ?_
    refine zv_icmp_eq C 401 dL_law_396 rfl (fun h396 => ?_) (fun h396 => absurd h396 (by exact fun z => z (by first | rfl | omega)))
    refine zv_iload C dL_law_401 rfl ?_
    refine zv_if_ne C 418 dL_law_403 rfl (fun _ => ?_) (fun h => absurd h (by omega))
    refine zv_goto C 966 dL_law_418 rfl ?_
    exact zv_widen (by omega) (by omega) (kk _ _ _ _ _ _ _ _ _ (lR_fr h (fun o j p1 p2 => zsF_ne (by omega)) (fun _ _ _ _ _ => rfl)))
set_option maxRecDepth 20000 in
theorem law_13 {nm : String} {G : zG} (C : zCx (M_law nm) zPF G) {b L : Nat} {xs : Nat → Int32} (S : zScr b L xs G) (E : zExs G) {T : zTt} {FR : zFR} {AR : zAR} {FI : zFI} {AI : zAI} {B D : Nat} {i : Int} {w5 w6 : Option zVal} {k n : Nat} (h : lR T FR AR FI AI B D) (i0 : 0 ≤ i) (i6 : i + 6 ≤ L) (iL : L ≤ 3072) (hk : k + 29 ≤ 601024) (hn : n + 979 ≤ 7293034) (kk : ∀ (w5 w6 : Option zVal) (T : zTt) (FR : zFR) (AR : zAR) (FI : zFI) (AI : zAI) (B D : Nat), lR T FR AR FI AI B D → zV G 966 [some (zA 99), some (zR 0), some (zR 100), some (zR 90), some (zI i), w5, w6] [] T FR AR FI AI (k + 29) (n + 979)) : zV G 679 [some (zA 99), some (zR 0), some (zR 100), some (zR 90), some (zI i), w5, w6] [] T FR AR FI AI k n := by
  obtain ⟨⟨gBD, hd, hc, hB, hD, hL, h90, hs, hsl⟩, ⟨t1, t2, t3, t4⟩, ⟨r1, r2, r3, r4, r5, r6, r7, r8, r9⟩⟩ := id h
  have hW := r1.1
  have gB : 14 ≤ B := by omega
  have b0 := mG_b r1
  have xs9 := sl_b r7.1 r7.2
  refine zv_aload_n C dL_law_679 rfl rfl ?_
  refine zv_aload_n C dL_law_680 rfl rfl ?_
  refine zv_iload C dL_law_681 rfl ?_
  refine zv_iconst C dL_law_683 rfl ?_
  refine zv_iadd C dL_law_684 ⟨by omega, by omega⟩ ?_
  refine zv_sld C S dL_law_685 ⟨by omega, by omega⟩ ?_
  refine zv_aload_n C dL_law_686 rfl rfl ?_
  refine zv_iload C dL_law_687 rfl ?_
  refine zv_iconst C dL_law_689 rfl ?_
  refine zv_iadd C dL_law_690 ⟨by omega, by omega⟩ ?_
  refine zv_sld C S dL_law_691 ⟨by omega, by omega⟩ ?_
  refine zv_aload_n C dL_law_692 rfl rfl ?_
  refine zv_iload C dL_law_693 rfl ?_
  refine zv_iconst C dL_law_695 rfl ?_
  refine zv_iadd C dL_law_696 ⟨by omega, by omega⟩ ?_
  refine zv_sld C S dL_law_697 ⟨by omega, by omega⟩ ?_
  refine zv_cVin_3 C dL_law_698 k_X8_enact l_L_83 hd.1 rfl ⟨(by first | exact Nat.le_of_ble_eq_true rfl | (show _ ≤ (601024 : Nat); omega) | (show _ ≤ (7293034 : Nat); omega)), (by first | exact Nat.le_of_ble_eq_true rfl | (show _ ≤ (601024 : Nat); omega) | (show _ ≤ (7293034 : Nat); omega))⟩ (k + 5) (n + 439) ⟨rfl, rfl⟩ ⟨(by first | exact Nat.le_of_ble_eq_true rfl | (show _ ≤ (601024 : Nat); omega) | (show _ ≤ (7293034 : Nat); omega)), (by first | exact Nat.le_of_ble_eq_true rfl | (show _ ≤ (601024 : Nat); omega) | (show _ ≤ (7293034 : Nat); omega))⟩ rfl rfl ?_
  refine s_X8_enact hd hc hB r2 hW gB (hsl (FI 14 1) r7.1 r7.2) (by unfold zb; omega) (by omega) r7.1 r7.2 (by omega) (by omega) (by omega) (by omega) (fun no => ?_) (fun ok T1 FR1 AR1 F1 A1 kp F2 A2 f2 kb => ?_)
  · refine zv_aload_n C dL_law_701 rfl rfl ?_
    refine zv_aload_n C dL_law_702 rfl rfl ?_
    refine zv_iload C dL_law_703 rfl ?_
    refine zv_iconst C dL_law_705 rfl ?_
    refine zv_iadd C dL_law_706 ⟨by omega, by omega⟩ ?_
    refine zv_sld C S dL_law_707 ⟨by omega, by omega⟩ ?_
    refine zv_aload_n C dL_law_708 rfl rfl ?_
    refine zv_iload C dL_law_709 rfl ?_
    refine zv_iconst C dL_law_711 rfl ?_
    refine zv_iadd C dL_law_712 ⟨by omega, by omega⟩ ?_
    refine zv_sld C S dL_law_713 ⟨by omega, by omega⟩ ?_
    refine zv_aload_n C dL_law_714 rfl rfl ?_
    refine zv_iload C dL_law_715 rfl ?_
    refine zv_iconst C dL_law_717 rfl ?_
    refine zv_iadd C dL_law_718 ⟨by omega, by omega⟩ ?_
    refine zv_sld C S dL_law_719 ⟨by omega, by omega⟩ ?_
    refine zv_cVi0_3 C dL_law_720 k_X9_enact l_L_86 hL.1 rfl ⟨(by first | exact Nat.le_of_ble_eq_true rfl | (show _ ≤ (601024 : Nat); omega) | (show _ ≤ (7293034 : Nat); omega)), (by first | exact Nat.le_of_ble_eq_true rfl | (show _ ≤ (601024 : Nat); omega) | (show _ ≤ (7293034 : Nat); omega))⟩ ⟨rfl, rfl⟩ ⟨(by first | exact Nat.le_of_ble_eq_true rfl | (show _ ≤ (601024 : Nat); omega) | (show _ ≤ (7293034 : Nat); omega)), (by first | exact Nat.le_of_ble_eq_true rfl | (show _ ≤ (601024 : Nat); omega) | (show _ ≤ (7293034 : Nat); omega))⟩ rfl rfl ?_
    refine s_X9_enact hL hW (by omega) (by omega) (fun no2 => ?_) (fun ok2 => absurd ok2 no)
    refine zv_icmp_eq C 966 dL_law_723 rfl (fun h723 => ?_) (fun h723 => absurd h723 (by exact fun z => z (by first | rfl | omega)))
    exact zv_widen (by omega) (by omega) (kk _ _ _ _ _ _ _ _ _ (lR_fr h (fun o j p1 p2 => zsF_ne (by omega)) (fun _ _ _ _ _ => rfl)))
  · have ok9 := id ok
    unfold okEn at ok9
    have hl1 := lRl_keep h.1 r7.1 r7.2 kp
    have hL := hl1.2.2.2.2.2.1
    have e111 : A2 111 = AI 111 := (f2.2 111 (by omega)).trans (kp.1 111 (by omega)).2.2
    have e14 : F2 100 14 = FI 100 14 := (f2.1 100 14 (by omega)).trans (kp.2.1 100 14 (by omega) (by omega))
    have hW1 : mW (A2 111) (AI 111 3).toNat (AI 111 4).toNat := by rw [e111]; exact hW
    refine zv_aload_n C dL_law_701 rfl rfl ?_
    refine zv_aload_n C dL_law_702 rfl rfl ?_
    refine zv_iload C dL_law_703 rfl ?_
    refine zv_iconst C dL_law_705 rfl ?_
    refine zv_iadd C dL_law_706 ⟨by omega, by omega⟩ ?_
    refine zv_sld C S dL_law_707 ⟨by omega, by omega⟩ ?_
    refine zv_aload_n C dL_law_708 rfl rfl ?_
    refine zv_iload C dL_law_709 rfl ?_
    refine zv_iconst C dL_law_711 rfl ?_
    refine zv_iadd C dL_law_712 ⟨by omega, by omega⟩ ?_
    refine zv_sld C S dL_law_713 ⟨by omega, by omega⟩ ?_
    refine zv_aload_n C dL_law_714 rfl rfl ?_
    refine zv_iload C dL_law_715 rfl ?_
    refine zv_iconst C dL_law_717 rfl ?_
    refine zv_iadd C dL_law_718 ⟨by omega, by omega⟩ ?_
    refine zv_sld C S dL_law_719 ⟨by omega, by omega⟩ ?_
    refine zv_cVi0_3 C dL_law_720 k_X9_enact l_L_86 hL.1 rfl ⟨(by first | exact Nat.le_of_ble_eq_true rfl | (show _ ≤ (601024 : Nat); omega) | (show _ ≤ (7293034 : Nat); omega)), (by first | exact Nat.le_of_ble_eq_true rfl | (show _ ≤ (601024 : Nat); omega) | (show _ ≤ (7293034 : Nat); omega))⟩ ⟨rfl, rfl⟩ ⟨(by first | exact Nat.le_of_ble_eq_true rfl | (show _ ≤ (601024 : Nat); omega) | (show _ ≤ (7293034 : Nat); omega)), (by first | exact Nat.le_of_ble_eq_true rfl | (show _ ≤ (601024 : Nat); omega) | (show _ ≤ (7293034 : Nat); omega))⟩ rfl rfl ?_
    refine s_X9_enact hL hW1 (by rw [e14]; omega) (by rw [e14]; omega) (fun no2 => ?_) (fun ok2 Sx qx hS => ?_)
    · exfalso; rw [e111] at no2; exact no2 ok
    · rw [e111]
      refine zv_icmp_eq C 966 dL_law_723 rfl (fun h723 => ?_) (fun h723 => absurd h723 (by exact fun z => z (by first | rfl | omega)))
      exact zv_widen (by omega) (by omega) (kk _ _ _ _ _ _ _ _ _ (lR_act h kp f2 kb hS (mG_rate r1 (by omega) (by omega) (by omega) (by omega) (by omega)) (if_neg (by omega)) (if_neg (by omega)) (fun j p q => if_neg (by omega))))
set_option maxRecDepth 20000 in
theorem law_14 {nm : String} {G : zG} (C : zCx (M_law nm) zPF G) {b L : Nat} {xs : Nat → Int32} (S : zScr b L xs G) (E : zExs G) {T : zTt} {FR : zFR} {AR : zAR} {FI : zFI} {AI : zAI} {B D : Nat} {i : Int} {w5 w6 : Option zVal} {k n : Nat} (h : lR T FR AR FI AI B D) (i0 : 0 ≤ i) (i6 : i + 6 ≤ L) (iL : L ≤ 3072) (hk : k + 29 ≤ 601024) (hn : n + 979 ≤ 7293034) (kk : ∀ (w5 w6 : Option zVal) (T : zTt) (FR : zFR) (AR : zAR) (FI : zFI) (AI : zAI) (B D : Nat), lR T FR AR FI AI B D → zV G 966 [some (zA 99), some (zR 0), some (zR 100), some (zR 90), some (zI i), w5, w6] [] T FR AR FI AI (k + 29) (n + 979)) : zV G 728 [some (zA 99), some (zR 0), some (zR 100), some (zR 90), some (zI i), w5, w6] [] T FR AR FI AI k n := by
  obtain ⟨⟨gBD, hd, hc, hB, hD, hL, h90, hs, hsl⟩, ⟨t1, t2, t3, t4⟩, ⟨r1, r2, r3, r4, r5, r6, r7, r8, r9⟩⟩ := id h
  have hW := r1.1
  have gB : 14 ≤ B := by omega
  have b0 := mG_b r1
  have xs9 := sl_b r7.1 r7.2
  refine zv_aload_n C dL_law_728 rfl rfl ?_
  refine zv_aload_n C dL_law_729 rfl rfl ?_
  refine zv_iload C dL_law_730 rfl ?_
  refine zv_iconst C dL_law_732 rfl ?_
  refine zv_iadd C dL_law_733 ⟨by omega, by omega⟩ ?_
  refine zv_sld C S dL_law_734 ⟨by omega, by omega⟩ ?_
  refine zv_aload_n C dL_law_735 rfl rfl ?_
  refine zv_iload C dL_law_736 rfl ?_
  refine zv_iconst C dL_law_738 rfl ?_
  refine zv_iadd C dL_law_739 ⟨by omega, by omega⟩ ?_
  refine zv_sld C S dL_law_740 ⟨by omega, by omega⟩ ?_
  refine zv_aload_n C dL_law_741 rfl rfl ?_
  refine zv_iload C dL_law_742 rfl ?_
  refine zv_iconst C dL_law_744 rfl ?_
  refine zv_iadd C dL_law_745 ⟨by omega, by omega⟩ ?_
  refine zv_sld C S dL_law_746 ⟨by omega, by omega⟩ ?_
  refine zv_cVin_3 C dL_law_747 k_X8_expect l_L_87 hd.1 rfl ⟨(by first | exact Nat.le_of_ble_eq_true rfl | (show _ ≤ (601024 : Nat); omega) | (show _ ≤ (7293034 : Nat); omega)), (by first | exact Nat.le_of_ble_eq_true rfl | (show _ ≤ (601024 : Nat); omega) | (show _ ≤ (7293034 : Nat); omega))⟩ (k + 5) (n + 439) ⟨rfl, rfl⟩ ⟨(by first | exact Nat.le_of_ble_eq_true rfl | (show _ ≤ (601024 : Nat); omega) | (show _ ≤ (7293034 : Nat); omega)), (by first | exact Nat.le_of_ble_eq_true rfl | (show _ ≤ (601024 : Nat); omega) | (show _ ≤ (7293034 : Nat); omega))⟩ rfl rfl ?_
  refine s_X8_expect hd hc hB r2 hW gB (hsl (FI 14 1) r7.1 r7.2) (by unfold zb; omega) (by omega) r7.1 r7.2 (by omega) (by omega) (by omega) (by omega) (fun no => ?_) (fun ok T1 FR1 AR1 F1 A1 kp F2 A2 f2 kb => ?_)
  · refine zv_aload_n C dL_law_750 rfl rfl ?_
    refine zv_aload_n C dL_law_751 rfl rfl ?_
    refine zv_iload C dL_law_752 rfl ?_
    refine zv_iconst C dL_law_754 rfl ?_
    refine zv_iadd C dL_law_755 ⟨by omega, by omega⟩ ?_
    refine zv_sld C S dL_law_756 ⟨by omega, by omega⟩ ?_
    refine zv_aload_n C dL_law_757 rfl rfl ?_
    refine zv_iload C dL_law_758 rfl ?_
    refine zv_iconst C dL_law_760 rfl ?_
    refine zv_iadd C dL_law_761 ⟨by omega, by omega⟩ ?_
    refine zv_sld C S dL_law_762 ⟨by omega, by omega⟩ ?_
    refine zv_aload_n C dL_law_763 rfl rfl ?_
    refine zv_iload C dL_law_764 rfl ?_
    refine zv_iconst C dL_law_766 rfl ?_
    refine zv_iadd C dL_law_767 ⟨by omega, by omega⟩ ?_
    refine zv_sld C S dL_law_768 ⟨by omega, by omega⟩ ?_
    refine zv_cVi0_3 C dL_law_769 k_X9_expect l_L_90 hL.1 rfl ⟨(by first | exact Nat.le_of_ble_eq_true rfl | (show _ ≤ (601024 : Nat); omega) | (show _ ≤ (7293034 : Nat); omega)), (by first | exact Nat.le_of_ble_eq_true rfl | (show _ ≤ (601024 : Nat); omega) | (show _ ≤ (7293034 : Nat); omega))⟩ ⟨rfl, rfl⟩ ⟨(by first | exact Nat.le_of_ble_eq_true rfl | (show _ ≤ (601024 : Nat); omega) | (show _ ≤ (7293034 : Nat); omega)), (by first | exact Nat.le_of_ble_eq_true rfl | (show _ ≤ (601024 : Nat); omega) | (show _ ≤ (7293034 : Nat); omega))⟩ rfl rfl ?_
    refine s_X9_expect hL hW (by omega) (by omega) (fun no2 => ?_) (fun ok2 => absurd ok2 no)
    refine zv_icmp_eq C 966 dL_law_772 rfl (fun h772 => ?_) (fun h772 => absurd h772 (by exact fun z => z (by first | rfl | omega)))
    exact zv_widen (by omega) (by omega) (kk _ _ _ _ _ _ _ _ _ (lR_fr h (fun o j p1 p2 => zsF_ne (by omega)) (fun _ _ _ _ _ => rfl)))
  · have hl1 := lRl_keep h.1 r7.1 r7.2 kp
    have hL := hl1.2.2.2.2.2.1
    have e111 : A2 111 = AI 111 := (f2.2 111 (by omega)).trans (kp.1 111 (by omega)).2.2
    have e14 : F2 100 14 = FI 100 14 := (f2.1 100 14 (by omega)).trans (kp.2.1 100 14 (by omega) (by omega))
    have hW1 : mW (A2 111) (AI 111 3).toNat (AI 111 4).toNat := by rw [e111]; exact hW
    refine zv_aload_n C dL_law_750 rfl rfl ?_
    refine zv_aload_n C dL_law_751 rfl rfl ?_
    refine zv_iload C dL_law_752 rfl ?_
    refine zv_iconst C dL_law_754 rfl ?_
    refine zv_iadd C dL_law_755 ⟨by omega, by omega⟩ ?_
    refine zv_sld C S dL_law_756 ⟨by omega, by omega⟩ ?_
    refine zv_aload_n C dL_law_757 rfl rfl ?_
    refine zv_iload C dL_law_758 rfl ?_
    refine zv_iconst C dL_law_760 rfl ?_
    refine zv_iadd C dL_law_761 ⟨by omega, by omega⟩ ?_
    refine zv_sld C S dL_law_762 ⟨by omega, by omega⟩ ?_
    refine zv_aload_n C dL_law_763 rfl rfl ?_
    refine zv_iload C dL_law_764 rfl ?_
    refine zv_iconst C dL_law_766 rfl ?_
    refine zv_iadd C dL_law_767 ⟨by omega, by omega⟩ ?_
    refine zv_sld C S dL_law_768 ⟨by omega, by omega⟩ ?_
    refine zv_cVi0_3 C dL_law_769 k_X9_expect l_L_90 hL.1 rfl ⟨(by first | exact Nat.le_of_ble_eq_true rfl | (show _ ≤ (601024 : Nat); omega) | (show _ ≤ (7293034 : Nat); omega)), (by first | exact Nat.le_of_ble_eq_true rfl | (show _ ≤ (601024 : Nat); omega) | (show _ ≤ (7293034 : Nat); omega))⟩ ⟨rfl, rfl⟩ ⟨(by first | exact Nat.le_of_ble_eq_true rfl | (show _ ≤ (601024 : Nat); omega) | (show _ ≤ (7293034 : Nat); omega)), (by first | exact Nat.le_of_ble_eq_true rfl | (show _ ≤ (601024 : Nat); omega) | (show _ ≤ (7293034 : Nat); omega))⟩ rfl rfl ?_
    refine s_X9_expect hL hW1 (by rw [e14]; omega) (by rw [e14]; omega) (fun no2 => ?_) (fun ok2 Sx qx hS => ?_)
    · exfalso; rw [e111] at no2; exact no2 ok
    · rw [e111]
      refine zv_icmp_eq C 966 dL_law_772 rfl (fun h772 => ?_) (fun h772 => absurd h772 (by exact fun z => z (by first | rfl | omega)))
      exact zv_widen (by omega) (by omega) (kk _ _ _ _ _ _ _ _ _ (lR_act h kp f2 kb hS (mG_expect r1 (by omega) (by omega) (by omega) (by omega) (by omega) (by omega)) (by unfold nExpect; exact zu1_ne (by omega)) (by unfold nExpect; exact zu1_ne (by omega)) (fun j p q => by unfold nExpect; exact zu1_ne (by omega))))
set_option maxRecDepth 20000 in
theorem law_16 {nm : String} {G : zG} (C : zCx (M_law nm) zPF G) {b L : Nat} {xs : Nat → Int32} (S : zScr b L xs G) (E : zExs G) {T : zTt} {FR : zFR} {AR : zAR} {FI : zFI} {AI : zAI} {B D : Nat} {i : Int} {w5 w6 : Option zVal} {k n : Nat} (h : lR T FR AR FI AI B D) (i0 : 0 ≤ i) (i6 : i + 6 ≤ L) (iL : L ≤ 3072) (hk : k + 29 ≤ 601024) (hn : n + 979 ≤ 7293034) (kk : ∀ (w5 w6 : Option zVal) (T : zTt) (FR : zFR) (AR : zAR) (FI : zFI) (AI : zAI) (B D : Nat), lR T FR AR FI AI B D → zV G 966 [some (zA 99), some (zR 0), some (zR 100), some (zR 90), some (zI i), w5, w6] [] T FR AR FI AI (k + 29) (n + 979)) : zV G 866 [some (zA 99), some (zR 0), some (zR 100), some (zR 90), some (zI i), w5, w6] [] T FR AR FI AI k n := by
  obtain ⟨⟨gBD, hd, hc, hB, hD, hL, h90, hs, hsl⟩, ⟨t1, t2, t3, t4⟩, ⟨r1, r2, r3, r4, r5, r6, r7, r8, r9⟩⟩ := id h
  have hW := r1.1
  have gB : 14 ≤ B := by omega
  have b0 := mG_b r1
  have xs9 := sl_b r7.1 r7.2
  refine zv_aload_n C dL_law_866 rfl rfl ?_
  refine zv_aload_n C dL_law_867 rfl rfl ?_
  refine zv_iload C dL_law_868 rfl ?_
  refine zv_iconst C dL_law_870 rfl ?_
  refine zv_iadd C dL_law_871 ⟨by omega, by omega⟩ ?_
  refine zv_sld C S dL_law_872 ⟨by omega, by omega⟩ ?_
  refine zv_cVin_1 C dL_law_873 k_X8_settle l_L_96 hd.1 rfl ⟨(by first | exact Nat.le_of_ble_eq_true rfl | (show _ ≤ (601024 : Nat); omega) | (show _ ≤ (7293034 : Nat); omega)), (by first | exact Nat.le_of_ble_eq_true rfl | (show _ ≤ (601024 : Nat); omega) | (show _ ≤ (7293034 : Nat); omega))⟩ (k + 5) (n + 439) ⟨rfl, rfl⟩ ⟨(by first | exact Nat.le_of_ble_eq_true rfl | (show _ ≤ (601024 : Nat); omega) | (show _ ≤ (7293034 : Nat); omega)), (by first | exact Nat.le_of_ble_eq_true rfl | (show _ ≤ (601024 : Nat); omega) | (show _ ≤ (7293034 : Nat); omega))⟩ rfl rfl ?_
  refine s_X8_settle hd hc hB r2 hW gB (hsl (FI 14 1) r7.1 r7.2) (by unfold zb; omega) (by omega) r7.1 r7.2 (by omega) (by omega) (by omega) (by omega) (fun no => ?_) (fun ok T1 FR1 AR1 F1 A1 kp F2 A2 f2 kb => ?_)
  · refine zv_aload_n C dL_law_876 rfl rfl ?_
    refine zv_aload_n C dL_law_877 rfl rfl ?_
    refine zv_iload C dL_law_878 rfl ?_
    refine zv_iconst C dL_law_880 rfl ?_
    refine zv_iadd C dL_law_881 ⟨by omega, by omega⟩ ?_
    refine zv_sld C S dL_law_882 ⟨by omega, by omega⟩ ?_
    refine zv_cVi0_1 C dL_law_883 k_X9_settle l_L_99 hL.1 rfl ⟨(by first | exact Nat.le_of_ble_eq_true rfl | (show _ ≤ (601024 : Nat); omega) | (show _ ≤ (7293034 : Nat); omega)), (by first | exact Nat.le_of_ble_eq_true rfl | (show _ ≤ (601024 : Nat); omega) | (show _ ≤ (7293034 : Nat); omega))⟩ ⟨rfl, rfl⟩ ⟨(by first | exact Nat.le_of_ble_eq_true rfl | (show _ ≤ (601024 : Nat); omega) | (show _ ≤ (7293034 : Nat); omega)), (by first | exact Nat.le_of_ble_eq_true rfl | (show _ ≤ (601024 : Nat); omega) | (show _ ≤ (7293034 : Nat); omega))⟩ rfl rfl ?_
    refine s_X9_settle hL hW (by omega) (by omega) (fun no2 => ?_) (fun ok2 => absurd ok2 no)
    refine zv_icmp_eq C 966 dL_law_886 rfl (fun h886 => ?_) (fun h886 => absurd h886 (by exact fun z => z (by first | rfl | omega)))
    exact zv_widen (by omega) (by omega) (kk _ _ _ _ _ _ _ _ _ (lR_fr h (fun o j p1 p2 => zsF_ne (by omega)) (fun _ _ _ _ _ => rfl)))
  · have hl1 := lRl_keep h.1 r7.1 r7.2 kp
    have hL := hl1.2.2.2.2.2.1
    have e111 : A2 111 = AI 111 := (f2.2 111 (by omega)).trans (kp.1 111 (by omega)).2.2
    have e14 : F2 100 14 = FI 100 14 := (f2.1 100 14 (by omega)).trans (kp.2.1 100 14 (by omega) (by omega))
    have hW1 : mW (A2 111) (AI 111 3).toNat (AI 111 4).toNat := by rw [e111]; exact hW
    refine zv_aload_n C dL_law_876 rfl rfl ?_
    refine zv_aload_n C dL_law_877 rfl rfl ?_
    refine zv_iload C dL_law_878 rfl ?_
    refine zv_iconst C dL_law_880 rfl ?_
    refine zv_iadd C dL_law_881 ⟨by omega, by omega⟩ ?_
    refine zv_sld C S dL_law_882 ⟨by omega, by omega⟩ ?_
    refine zv_cVi0_1 C dL_law_883 k_X9_settle l_L_99 hL.1 rfl ⟨(by first | exact Nat.le_of_ble_eq_true rfl | (show _ ≤ (601024 : Nat); omega) | (show _ ≤ (7293034 : Nat); omega)), (by first | exact Nat.le_of_ble_eq_true rfl | (show _ ≤ (601024 : Nat); omega) | (show _ ≤ (7293034 : Nat); omega))⟩ ⟨rfl, rfl⟩ ⟨(by first | exact Nat.le_of_ble_eq_true rfl | (show _ ≤ (601024 : Nat); omega) | (show _ ≤ (7293034 : Nat); omega)), (by first | exact Nat.le_of_ble_eq_true rfl | (show _ ≤ (601024 : Nat); omega) | (show _ ≤ (7293034 : Nat); omega))⟩ rfl rfl ?_
    refine s_X9_settle hL hW1 (by rw [e14]; omega) (by rw [e14]; omega) (fun no2 => ?_) (fun ok2 Sx qx hS => ?_)
    · exfalso; rw [e111] at no2; exact no2 ok
    · rw [e111]
      refine zv_icmp_eq C 966 dL_law_886 rfl (fun h886 => ?_) (fun h886 => absurd h886 (by exact fun z => z (by first | rfl | omega)))
      exact zv_widen (by omega) (by omega) (kk _ _ _ _ _ _ _ _ _ (lR_act h kp f2 kb hS (mG_settle r1 (by omega) (by omega) (by omega)) (by unfold nSettle; rw [zu1_ne (by omega), zu1_ne (by omega), zu1_ne (by omega)]) (by unfold nSettle; rw [zu1_ne (by omega), zu1_ne (by omega), zu1_ne (by omega)]) (fun j p q => by unfold nSettle; rw [zu1_ne (by omega), zu1_ne (by omega), zu1_ne (by omega)])))
set_option maxRecDepth 20000 in
theorem law_17 {nm : String} {G : zG} (C : zCx (M_law nm) zPF G) {b L : Nat} {xs : Nat → Int32} (S : zScr b L xs G) (E : zExs G) {T : zTt} {FR : zFR} {AR : zAR} {FI : zFI} {AI : zAI} {B D : Nat} {i : Int} {w5 w6 : Option zVal} {k n : Nat} (h : lR T FR AR FI AI B D) (i0 : 0 ≤ i) (i6 : i + 6 ≤ L) (iL : L ≤ 3072) (hk : k + 29 ≤ 601024) (hn : n + 979 ≤ 7293034) (kk : ∀ (w5 w6 : Option zVal) (T : zTt) (FR : zFR) (AR : zAR) (FI : zFI) (AI : zAI) (B D : Nat), lR T FR AR FI AI B D → zV G 966 [some (zA 99), some (zR 0), some (zR 100), some (zR 90), some (zI i), w5, w6] [] T FR AR FI AI (k + 29) (n + 979)) : zV G 891 [some (zA 99), some (zR 0), some (zR 100), some (zR 90), some (zI i), w5, w6] [] T FR AR FI AI k n := by
  obtain ⟨⟨gBD, hd, hc, hB, hD, hL, h90, hs, hsl⟩, ⟨t1, t2, t3, t4⟩, ⟨r1, r2, r3, r4, r5, r6, r7, r8, r9⟩⟩ := id h
  have hW := r1.1
  have gB : 14 ≤ B := by omega
  have b0 := mG_b r1
  have xs9 := sl_b r7.1 r7.2
  refine zv_aload_n C dL_law_891 rfl rfl ?_
  refine zv_aload_n C dL_law_892 rfl rfl ?_
  refine zv_iload C dL_law_893 rfl ?_
  refine zv_iconst C dL_law_895 rfl ?_
  refine zv_iadd C dL_law_896 ⟨by omega, by omega⟩ ?_
  refine zv_sld C S dL_law_897 ⟨by omega, by omega⟩ ?_
  refine zv_aload_n C dL_law_898 rfl rfl ?_
  refine zv_iload C dL_law_899 rfl ?_
  refine zv_iconst C dL_law_901 rfl ?_
  refine zv_iadd C dL_law_902 ⟨by omega, by omega⟩ ?_
  refine zv_sld C S dL_law_903 ⟨by omega, by omega⟩ ?_
  refine zv_aload_n C dL_law_904 rfl rfl ?_
  refine zv_iload C dL_law_905 rfl ?_
  refine zv_iconst C dL_law_907 rfl ?_
  refine zv_iadd C dL_law_908 ⟨by omega, by omega⟩ ?_
  refine zv_sld C S dL_law_909 ⟨by omega, by omega⟩ ?_
  refine zv_cVin_3 C dL_law_910 k_X8_loses l_L_100 hd.1 rfl ⟨(by first | exact Nat.le_of_ble_eq_true rfl | (show _ ≤ (601024 : Nat); omega) | (show _ ≤ (7293034 : Nat); omega)), (by first | exact Nat.le_of_ble_eq_true rfl | (show _ ≤ (601024 : Nat); omega) | (show _ ≤ (7293034 : Nat); omega))⟩ (k + 5) (n + 439) ⟨rfl, rfl⟩ ⟨(by first | exact Nat.le_of_ble_eq_true rfl | (show _ ≤ (601024 : Nat); omega) | (show _ ≤ (7293034 : Nat); omega)), (by first | exact Nat.le_of_ble_eq_true rfl | (show _ ≤ (601024 : Nat); omega) | (show _ ≤ (7293034 : Nat); omega))⟩ rfl rfl ?_
  refine s_X8_loses hd hc hB r2 hW gB (hsl (FI 14 1) r7.1 r7.2) (by unfold zb; omega) (by omega) r7.1 r7.2 (by omega) (by omega) (by omega) (by omega) (fun ok e30 => ?_) (fun no => ?_) (fun ok l30 T1 FR1 AR1 F1 A1 kp F2 A2 f2 kb => ?_)
  · refine zv_aload_n C dL_law_913 rfl rfl ?_
    refine zv_aload_n C dL_law_914 rfl rfl ?_
    refine zv_iload C dL_law_915 rfl ?_
    refine zv_iconst C dL_law_917 rfl ?_
    refine zv_iadd C dL_law_918 ⟨by omega, by omega⟩ ?_
    refine zv_sld C S dL_law_919 ⟨by omega, by omega⟩ ?_
    refine zv_aload_n C dL_law_920 rfl rfl ?_
    refine zv_iload C dL_law_921 rfl ?_
    refine zv_iconst C dL_law_923 rfl ?_
    refine zv_iadd C dL_law_924 ⟨by omega, by omega⟩ ?_
    refine zv_sld C S dL_law_925 ⟨by omega, by omega⟩ ?_
    refine zv_aload_n C dL_law_926 rfl rfl ?_
    refine zv_iload C dL_law_927 rfl ?_
    refine zv_iconst C dL_law_929 rfl ?_
    refine zv_iadd C dL_law_930 ⟨by omega, by omega⟩ ?_
    refine zv_sld C S dL_law_931 ⟨by omega, by omega⟩ ?_
    refine zv_cVi0_3 C dL_law_932 k_X9_loses l_L_103 hL.1 rfl ⟨(by first | exact Nat.le_of_ble_eq_true rfl | (show _ ≤ (601024 : Nat); omega) | (show _ ≤ (7293034 : Nat); omega)), (by first | exact Nat.le_of_ble_eq_true rfl | (show _ ≤ (601024 : Nat); omega) | (show _ ≤ (7293034 : Nat); omega))⟩ ⟨rfl, rfl⟩ ⟨(by first | exact Nat.le_of_ble_eq_true rfl | (show _ ≤ (601024 : Nat); omega) | (show _ ≤ (7293034 : Nat); omega)), (by first | exact Nat.le_of_ble_eq_true rfl | (show _ ≤ (601024 : Nat); omega) | (show _ ≤ (7293034 : Nat); omega))⟩ rfl rfl ?_
    refine s_X9_loses hL hW (by omega) (by omega) (fun no2 => absurd ok no2) (fun ok2 e31 => ?_) (fun ok2 l30 => absurd l30 (by omega))
    refine zv_icmp_eq C 966 dL_law_935 rfl (fun h935 => ?_) (fun h935 => absurd h935 (by exact fun z => z (by first | rfl | omega)))
    exact zv_widen (by omega) (by omega) (kk _ _ _ _ _ _ _ _ _ (lR_fr h (fun o j p1 p2 => zsF_ne (by omega)) (fun _ _ _ _ _ => rfl)))
  · refine zv_aload_n C dL_law_913 rfl rfl ?_
    refine zv_aload_n C dL_law_914 rfl rfl ?_
    refine zv_iload C dL_law_915 rfl ?_
    refine zv_iconst C dL_law_917 rfl ?_
    refine zv_iadd C dL_law_918 ⟨by omega, by omega⟩ ?_
    refine zv_sld C S dL_law_919 ⟨by omega, by omega⟩ ?_
    refine zv_aload_n C dL_law_920 rfl rfl ?_
    refine zv_iload C dL_law_921 rfl ?_
    refine zv_iconst C dL_law_923 rfl ?_
    refine zv_iadd C dL_law_924 ⟨by omega, by omega⟩ ?_
    refine zv_sld C S dL_law_925 ⟨by omega, by omega⟩ ?_
    refine zv_aload_n C dL_law_926 rfl rfl ?_
    refine zv_iload C dL_law_927 rfl ?_
    refine zv_iconst C dL_law_929 rfl ?_
    refine zv_iadd C dL_law_930 ⟨by omega, by omega⟩ ?_
    refine zv_sld C S dL_law_931 ⟨by omega, by omega⟩ ?_
    refine zv_cVi0_3 C dL_law_932 k_X9_loses l_L_103 hL.1 rfl ⟨(by first | exact Nat.le_of_ble_eq_true rfl | (show _ ≤ (601024 : Nat); omega) | (show _ ≤ (7293034 : Nat); omega)), (by first | exact Nat.le_of_ble_eq_true rfl | (show _ ≤ (601024 : Nat); omega) | (show _ ≤ (7293034 : Nat); omega))⟩ ⟨rfl, rfl⟩ ⟨(by first | exact Nat.le_of_ble_eq_true rfl | (show _ ≤ (601024 : Nat); omega) | (show _ ≤ (7293034 : Nat); omega)), (by first | exact Nat.le_of_ble_eq_true rfl | (show _ ≤ (601024 : Nat); omega) | (show _ ≤ (7293034 : Nat); omega))⟩ rfl rfl ?_
    refine s_X9_loses hL hW (by omega) (by omega) (fun no2 => ?_) (fun ok2 e30 => absurd ok2 no) (fun ok2 => absurd ok2 no)
    refine zv_icmp_eq C 966 dL_law_935 rfl (fun h935 => ?_) (fun h935 => absurd h935 (by exact fun z => z (by first | rfl | omega)))
    exact zv_widen (by omega) (by omega) (kk _ _ _ _ _ _ _ _ _ (lR_fr h (fun o j p1 p2 => zsF_ne (by omega)) (fun _ _ _ _ _ => rfl)))
  · have hl1 := lRl_keep h.1 r7.1 r7.2 kp
    have hL := hl1.2.2.2.2.2.1
    have e111 : A2 111 = AI 111 := (f2.2 111 (by omega)).trans (kp.1 111 (by omega)).2.2
    have e14 : F2 100 14 = FI 100 14 := (f2.1 100 14 (by omega)).trans (kp.2.1 100 14 (by omega) (by omega))
    have hW1 : mW (A2 111) (AI 111 3).toNat (AI 111 4).toNat := by rw [e111]; exact hW
    refine zv_aload_n C dL_law_913 rfl rfl ?_
    refine zv_aload_n C dL_law_914 rfl rfl ?_
    refine zv_iload C dL_law_915 rfl ?_
    refine zv_iconst C dL_law_917 rfl ?_
    refine zv_iadd C dL_law_918 ⟨by omega, by omega⟩ ?_
    refine zv_sld C S dL_law_919 ⟨by omega, by omega⟩ ?_
    refine zv_aload_n C dL_law_920 rfl rfl ?_
    refine zv_iload C dL_law_921 rfl ?_
    refine zv_iconst C dL_law_923 rfl ?_
    refine zv_iadd C dL_law_924 ⟨by omega, by omega⟩ ?_
    refine zv_sld C S dL_law_925 ⟨by omega, by omega⟩ ?_
    refine zv_aload_n C dL_law_926 rfl rfl ?_
    refine zv_iload C dL_law_927 rfl ?_
    refine zv_iconst C dL_law_929 rfl ?_
    refine zv_iadd C dL_law_930 ⟨by omega, by omega⟩ ?_
    refine zv_sld C S dL_law_931 ⟨by omega, by omega⟩ ?_
    refine zv_cVi0_3 C dL_law_932 k_X9_loses l_L_103 hL.1 rfl ⟨(by first | exact Nat.le_of_ble_eq_true rfl | (show _ ≤ (601024 : Nat); omega) | (show _ ≤ (7293034 : Nat); omega)), (by first | exact Nat.le_of_ble_eq_true rfl | (show _ ≤ (601024 : Nat); omega) | (show _ ≤ (7293034 : Nat); omega))⟩ ⟨rfl, rfl⟩ ⟨(by first | exact Nat.le_of_ble_eq_true rfl | (show _ ≤ (601024 : Nat); omega) | (show _ ≤ (7293034 : Nat); omega)), (by first | exact Nat.le_of_ble_eq_true rfl | (show _ ≤ (601024 : Nat); omega) | (show _ ≤ (7293034 : Nat); omega))⟩ rfl rfl ?_
    refine s_X9_loses hL hW1 (by rw [e14]; omega) (by rw [e14]; omega) (fun no2 => ?_) (fun ok2 e31 => ?_) (fun ok2 l31 Sx qx hS => ?_)
    · exfalso; rw [e111] at no2; exact no2 ok
    · exfalso; rw [e111] at e31; omega
    · rw [e111]
      refine zv_icmp_eq C 966 dL_law_935 rfl (fun h935 => ?_) (fun h935 => absurd h935 (by exact fun z => z (by first | rfl | omega)))
      exact zv_widen (by omega) (by omega) (kk _ _ _ _ _ _ _ _ _ (lR_act h kp f2 kb hS (mG_loss r1 (by omega) (by omega) (by omega) (by omega) (by omega) (by omega) (by omega)) (by unfold nLoss; rw [zu1_ne (by omega), zu1_ne (by omega), zu1_ne (by omega), zu1_ne (by omega), zu1_ne (by omega)]) (by unfold nLoss; rw [zu1_ne (by omega), zu1_ne (by omega), zu1_ne (by omega), zu1_ne (by omega), zu1_ne (by omega)]) (fun j p q => by unfold nLoss; rw [zu1_ne (by omega), zu1_ne (by omega), zu1_ne (by omega), zu1_ne (by omega), zu1_ne (by omega)])))
