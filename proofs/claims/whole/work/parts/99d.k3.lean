set_option maxRecDepth 20000 in
theorem s_X6_isWord {T : zTt} {FR : zFR} {AR : zAR} {FI : zFI} {AI : zAI} {Post : zPost} {B D : Nat} {b : Int → Int} {n : Int} {j : Nat} {p : Int} (hd : dLay T FR B D) (hrt : FR 3 0 = some 1) (hn : FI 1 1 = n) (hn0 : 0 ≤ n) (hn2 : n ≤ 640) (hb : ∀ j : Int, 0 ≤ j → j < n → AI 2 j % 256 = b j) (hj : j < 7) (hA : rAt FI b n p) (hk : tK b n p = 2) (p0 : 0 ≤ p) (p1 : p ≤ n) (h1 : zKw b n p j → Post (zI 1) T FR AR FI AI) (h0 : ¬ zKw b n p j → Post (zI 0) T FR AR FI AI) : zMet M_X6_isWord [zR 3, zA (10 + j)] T FR AR FI AI Post := by
  refine zMet.of [some (zR 3), some (zA (10 + j)), none] rfl rfl rfl (fun G C => ?_)
  have hj13 : j < 13 := by omega
  obtain ⟨w0, w1, w2, w3⟩ := tK_word hk
  have zp := tP_b (b := b) (n := n) (q := p) p0 p1 hn2
  have zn := tN_b (b := b) (n := n) (p := p) (by omega)
  have e6 : FI 3 6 = tP b n p := hA.1
  have e3 : FI 3 3 = tN b n p := hA.2.2.1 (by omega)
  have kb := (kch_b j hj).1
  refine zv_aload_n C dX6_isWord_0 rfl rfl ?_
  refine zv_cAi0_0 C dX6_isWord_1 k_J0_length_8abf5 l_X6_87 (zOS_str hj13) ⟨Nat.le_of_ble_eq_true rfl, Nat.le_of_ble_eq_true rfl⟩ ⟨rfl, rfl⟩ ⟨Nat.le_of_ble_eq_true rfl, Nat.le_of_ble_eq_true rfl⟩ rfl rfl ?_
  refine s_J0_length_8abf5 hj13 ?_
  rw [zBl_k0 j hj]
  refine zv_aload_n C dX6_isWord_4 rfl rfl ?_
  refine zv_getI C dX6_isWord_5 f_X6_32 hd.2.2.2.1 rfl ?_
  refine zv_aload_n C dX6_isWord_8 rfl rfl ?_
  refine zv_getI C dX6_isWord_9 f_X6_93 hd.2.2.2.1 rfl ?_
  rw [e3, e6]
  refine zv_isub C dX6_isWord_12 ⟨by omega, by omega⟩ ?_
  refine zv_icmp_eq C 18 dX6_isWord_13 rfl (fun h13 => ?_) (fun h13 => ?_)
  · refine zv_iconst C dX6_isWord_18 rfl ?_
    refine zv_istore_2 C dX6_isWord_19 rfl rfl ?_
    suffices lp : ∀ (d i : Nat), i + d = kln j → (∀ q : Nat, q < i → b (tP b n p + q) = kch j q) → zV G 20 [some (zR 3), some (zA (10 + j)), some (zI (i : Int))] [] T FR AR FI AI 0 0 from lp (kln j) 0 (by omega) (fun q hq => by omega)
    intro d
    induction d with
    | zero =>
      intro i hi hq
      refine zv_iload_n C dX6_isWord_20 rfl ?_
      refine zv_aload_n C dX6_isWord_21 rfl rfl ?_
      refine zv_cAi0_0 C dX6_isWord_22 k_J0_length_8abf5 l_X6_87 (zOS_str hj13) ⟨Nat.le_of_ble_eq_true rfl, Nat.le_of_ble_eq_true rfl⟩ ⟨rfl, rfl⟩ ⟨Nat.le_of_ble_eq_true rfl, Nat.le_of_ble_eq_true rfl⟩ rfl rfl ?_
      refine s_J0_length_8abf5 hj13 ?_
      rw [zBl_k0 j hj]
      refine zv_icmp_ge C 57 dX6_isWord_25 rfl (fun h25 => ?_) (fun h25 => absurd h25 (by omega))
      refine zv_iconst C dX6_isWord_57 rfl ?_
      refine zv_ireturn C dX6_isWord_58 rfl rfl rfl rfl ?_
      exact h1 ⟨hk, by omega, fun q hq2 => hq q (by omega)⟩
    | succ d ih =>
      intro i hi hq
      have q9 := ih (i + 1) (by omega)
      refine zv_iload_n C dX6_isWord_20 rfl ?_
      refine zv_aload_n C dX6_isWord_21 rfl rfl ?_
      refine zv_cAi0_0 C dX6_isWord_22 k_J0_length_8abf5 l_X6_87 (zOS_str hj13) ⟨Nat.le_of_ble_eq_true rfl, Nat.le_of_ble_eq_true rfl⟩ ⟨rfl, rfl⟩ ⟨Nat.le_of_ble_eq_true rfl, Nat.le_of_ble_eq_true rfl⟩ rfl rfl ?_
      refine s_J0_length_8abf5 hj13 ?_
      rw [zBl_k0 j hj]
      refine zv_icmp_ge C 57 dX6_isWord_25 rfl (fun h25 => absurd h25 (by omega)) (fun h25 => ?_)
      refine zv_aload_n C dX6_isWord_28 rfl rfl ?_
      refine zv_iload_n C dX6_isWord_29 rfl ?_
      refine zv_cAi0_1 C dX6_isWord_30 k_J0_charAt_5068e l_X6_96 (zOS_str hj13) ⟨Nat.le_of_ble_eq_true rfl, Nat.le_of_ble_eq_true rfl⟩ ⟨rfl, rfl⟩ ⟨Nat.le_of_ble_eq_true rfl, Nat.le_of_ble_eq_true rfl⟩ rfl rfl ?_
      refine s_J0_charAt_5068e hj13 (by omega) (by rw [zBl_k0 j hj]; omega) ?_
      rw [zCh_k hj (by omega)]
      refine zv_aload_n C dX6_isWord_33 rfl rfl ?_
      refine zv_getR C dX6_isWord_34 f_X6_12 hd.2.2.2.1 rfl hrt ?_
      refine zv_aload_n C dX6_isWord_37 rfl rfl ?_
      refine zv_getI C dX6_isWord_38 f_X6_93 hd.2.2.2.1 rfl ?_
      refine zv_iload_n C dX6_isWord_41 rfl ?_
      rw [e6]
      refine zv_iadd C dX6_isWord_42 ⟨by omega, by omega⟩ ?_
      refine zv_cVi0_1 C dX6_isWord_43 k_X7_at l_X6_100 hd.2.1 rfl ⟨Nat.le_of_ble_eq_true rfl, Nat.le_of_ble_eq_true rfl⟩ ⟨rfl, rfl⟩ ⟨Nat.le_of_ble_eq_true rfl, Nat.le_of_ble_eq_true rfl⟩ rfl rfl ?_
      refine s_X7_at hd (by omega) ?_
      rw [if_pos ⟨by omega, by omega⟩, hb _ (by omega) (by omega)]
      refine zv_icmp_eq C 51 dX6_isWord_46 rfl (fun h46 => ?_) (fun h46 => ?_)
      · refine zv_iinc_2 C dX6_isWord_51 rfl rfl ⟨by omega, by omega⟩ ?_
        refine zv_goto C 20 dX6_isWord_54 rfl ?_
        exact q9 (fun q hq2 => by
          by_cases c : q = i
          · subst c; omega
          · exact hq q (by omega))
      · refine zv_iconst C dX6_isWord_49 rfl ?_
        refine zv_ireturn C dX6_isWord_50 rfl rfl rfl rfl ?_
        exact h0 (fun z => absurd (z.2.2 i (by omega)) (fun z2 => by omega))
  · refine zv_iconst C dX6_isWord_16 rfl ?_
    refine zv_ireturn C dX6_isWord_17 rfl rfl rfl rfl ?_
    exact h0 (fun z => absurd z.2.1 (by omega))

set_option maxRecDepth 20000 in
theorem s_X6_lineThatComes {T : zTt} {FR : zFR} {AR : zAR} {FI : zFI} {AI : zAI} {Post : zPost} {B D : Nat} {b : Int → Int} {n : Int} {N : Int → Int} {p L : Int} (hd : dLay T FR B D) (hrt : FR 3 0 = some 1) (hn : FI 1 1 = n) (hn0 : 0 ≤ n) (hn2 : n ≤ 640) (hb : ∀ j : Int, 0 ≤ j → j < n → AI 2 j % 256 = b j) (hrb : FR 3 2 = some D) (hD : bLay T FR D) (hK : bk FI AI D N) (hA : rAt FI b n p) (p0 : 0 ≤ p) (p1 : p ≤ n) (g2 : 0 ≤ N 2 ∧ N 2 ≤ 3) (hl : FI 3 7 = L) (hY : ∀ j : Nat, lOk b n p N L j → Post (zA j) T FR AR FI AI) (hN : (∀ j : Nat, ¬ lOk b n p N L j) → Post zN T FR AR FI AI) : zMet M_X6_lineThatComes [zR 3] T FR AR FI AI Post := by
  refine zMet.of [some (zR 3), none] rfl rfl rfl (fun G C => ?_)
  obtain ⟨k0, k1, k2, k3, k4, k5, k6, k7, k8⟩ := id hK
  refine zv_aload_n C dX6_lineThatComes_0 rfl rfl ?_
  refine zv_getI C dX6_lineThatComes_1 f_X6_45 hd.2.2.2.1 rfl ?_
  refine zv_iconst C dX6_lineThatComes_4 rfl ?_
  rw [hA.2.1]
  refine zv_icmp_eq C 10 dX6_lineThatComes_5 rfl (fun h5 => ?_) (fun h5 => ?_)
  · refine zv_iconst C dX6_lineThatComes_10 rfl ?_
    refine zv_istore_1 C dX6_lineThatComes_11 rfl rfl ?_
    have hk2 : tK b n p = 2 := by omega
    suffices lp : ∀ (d j : Nat), j + d = 7 → (∀ i : Nat, i < j → ¬ zKw b n p i) → zV G 12 [some (zR 3), some (zI (j : Int))] [] T FR AR FI AI 0 0 from lp 7 0 (by omega) (fun q hq => by omega)
    intro d
    induction d with
    | zero =>
      intro j hj7 hq
      refine zv_iload_n C dX6_lineThatComes_12 rfl ?_
      refine zv_getsAN C dX6_lineThatComes_13 rfl ?_
      refine zv_alenA C dX6_lineThatComes_16 zTS_all (by omega) ?_
      refine zv_icmp_ge C 63 dX6_lineThatComes_17 rfl (fun h17 => ?_) (fun h17 => absurd h17 (by omega))
      refine zv_null C dX6_lineThatComes_63 ?_
      refine zv_areturn C dX6_lineThatComes_64 rfl rfl rfl rfl ?_
      exact hN (fun i z => hq i (by have := z.1; omega) z.2.1)
    | succ d ih =>
      intro j hj7 hq
      have hj : j < 7 := by omega
      refine zv_iload_n C dX6_lineThatComes_12 rfl ?_
      refine zv_getsAN C dX6_lineThatComes_13 rfl ?_
      refine zv_alenA C dX6_lineThatComes_16 zTS_all (by omega) ?_
      refine zv_icmp_ge C 63 dX6_lineThatComes_17 rfl (fun h17 => absurd h17 (by omega)) (fun h17 => ?_)
      refine zv_aload_n C dX6_lineThatComes_20 rfl rfl ?_
      refine zv_getsAN C dX6_lineThatComes_21 rfl ?_
      refine zv_iload_n C dX6_lineThatComes_24 rfl ?_
      refine zv_aaloadA (j := j) C dX6_lineThatComes_25 zTS_all ⟨by omega, by omega⟩ (fun sa => by rw [Int.toNat_natCast]) ?_
      refine zv_getfA (j := 10 + j) C dX6_lineThatComes_26 fs_X6_78 (zOF_word hj) ?_
      refine zv_cVi0_1 C dX6_lineThatComes_29 k_X6_isWord l_X6_81 hd.2.2.2.1 rfl ⟨Nat.le_of_ble_eq_true rfl, Nat.le_of_ble_eq_true rfl⟩ ⟨rfl, rfl⟩ ⟨Nat.le_of_ble_eq_true rfl, Nat.le_of_ble_eq_true rfl⟩ rfl rfl ?_
      refine s_X6_isWord hd hrt hn hn0 hn2 hb hj hA hk2 p0 p1 (fun bw => ?_) (fun bw => ?_)
      · refine zv_if_eq C 57 dX6_lineThatComes_32 rfl (fun h => absurd h (by omega)) (fun _ => ?_)
        refine zv_aload_n C dX6_lineThatComes_35 rfl rfl ?_
        refine zv_getsAN C dX6_lineThatComes_36 rfl ?_
        refine zv_iload_n C dX6_lineThatComes_39 rfl ?_
        refine zv_aaloadA (j := j) C dX6_lineThatComes_40 zTS_all ⟨by omega, by omega⟩ (fun sa => by rw [Int.toNat_natCast]) ?_
        refine zv_cVi0_1 C dX6_lineThatComes_41 k_X6_mayCome l_X6_84 hd.2.2.2.1 rfl ⟨Nat.le_of_ble_eq_true rfl, Nat.le_of_ble_eq_true rfl⟩ ⟨rfl, rfl⟩ ⟨Nat.le_of_ble_eq_true rfl, Nat.le_of_ble_eq_true rfl⟩ rfl rfl ?_
        refine s_X6_mayCome hd hrb hD (by rw [k2]; omega) hj (fun bm => ?_) (fun bm => ?_)
        · refine zv_if_eq C 55 dX6_lineThatComes_44 rfl (fun h => absurd h (by omega)) (fun _ => ?_)
          refine zv_getsAN C dX6_lineThatComes_47 rfl ?_
          refine zv_iload_n C dX6_lineThatComes_50 rfl ?_
          refine zv_aaloadA (j := j) C dX6_lineThatComes_51 zTS_all ⟨by omega, by omega⟩ (fun sa => by rw [Int.toNat_natCast]) ?_
          refine zv_goto C 56 dX6_lineThatComes_52 rfl ?_
          refine zv_areturn C dX6_lineThatComes_56 rfl rfl rfl rfl ?_
          rw [hl, k2] at bm
          first
          | exact hY j ⟨hj, bw, bm⟩
          | exact hN (fun i z => by
              have e := zKw_uni z.1 hj z.2.1 bw
              subst e
              exact bm z.2.2)
        · refine zv_if_eq C 55 dX6_lineThatComes_44 rfl (fun _ => ?_) (fun h => absurd h (by omega))
          refine zv_null C dX6_lineThatComes_55 ?_
          refine zv_areturn C dX6_lineThatComes_56 rfl rfl rfl rfl ?_
          rw [hl, k2] at bm
          first
          | exact hY j ⟨hj, bw, bm⟩
          | exact hN (fun i z => by
              have e := zKw_uni z.1 hj z.2.1 bw
              subst e
              exact bm z.2.2)
      · refine zv_if_eq C 57 dX6_lineThatComes_32 rfl (fun _ => ?_) (fun h => absurd h (by omega))
        refine zv_iinc_1 C dX6_lineThatComes_57 rfl rfl ⟨by omega, by omega⟩ ?_
        refine zv_goto C 12 dX6_lineThatComes_60 rfl ?_
        exact ih (j + 1) (by omega) (fun q hq2 => by
          by_cases c : q = j
          · subst c; exact bw
          · exact hq q (by omega))
  · refine zv_null C dX6_lineThatComes_8 ?_
    refine zv_areturn C dX6_lineThatComes_9 rfl rfl rfl rfl ?_
    exact hN (fun i z => by have := z.2.1.1; omega)

/-- what reading numbers changes: the reader's token, the numbers -/
def rFm (F0 F : zFI) (A0 A : zAI) : Prop := (∀ o j, o ≠ 3 ∨ j < 3 ∨ j = 7 → F o j = F0 o j) ∧ ∀ a, a ≠ 4 → A a = A0 a
theorem rFr.m {F0 F : zFI} {A0 A : zAI} (h : rFr F0 F) (g : ∀ a, a ≠ 4 → A a = A0 a) : rFm F0 F A0 A := ⟨fun o j a => h o j (by omega), g⟩
theorem rFm.set8 {F0 F : zFI} {A0 A : zAI} {x : Int} (h : rFm F0 F A0 A) : rFm F0 (zsF F 3 8 x) A0 A := ⟨fun o j a => (zsF_ne (by omega)).trans (h.1 o j a), h.2⟩
set_option maxRecDepth 20000 in
theorem s_X6_readsNumbers {T : zTt} {FR : zFR} {AR : zAR} {FI : zFI} {AI : zAI} {Post : zPost} {B D : Nat} {b : Int → Int} {n : Int} {j : Nat} {f p1 : Int} (hd : dLay T FR B D) (hrt : FR 3 0 = some 1) (hn : FI 1 1 = n) (hn0 : 0 ≤ n) (hn2 : n ≤ 640) (hb : ∀ j : Int, 0 ≤ j → j < n → AI 2 j % 256 = b j) (hrb : FR 3 2 = some D) (hD : bLay T FR D) (gD : 17 ≤ D) (hj : j < 7) (hf : FI D 6 = f) (gf : 0 ≤ f ∧ f ≤ 3) (h3 : FI 3 3 = p1) (p0 : 0 ≤ p1) (pn : p1 ≤ n) (h1 : ∀ (F1 : zFI) (A1 : zAI), rFr FI F1 → (∀ a, a ≠ 4 → A1 a = AI a) → sGd b n p1 f j → (∀ i : Nat, i < sln j → A1 4 i = sV b n p1 i) → F1 3 3 = tN b n (tI b n p1 (sln j)) → Post (zI 1) T FR AR F1 A1) (h0 : ∀ (F1 : zFI) (A1 : zAI), rFm FI F1 AI A1 → sBd b n p1 f j (F1 3 8) (F1 3 6) → Post (zI 0) T FR AR F1 A1) : zMet M_X6_readsNumbers [zR 3, zA (10 + zSlo.getD j 0)] T FR AR FI AI Post := by
  refine zMet.of [some (zR 3), some (zA (10 + zSlo.getD j 0)), none] rfl rfl rfl (fun G C => ?_)
  obtain ⟨z0, z1, z2⟩ := zSl_k0 j hj
  suffices lp : ∀ (d k : Nat) (F : zFI) (A : zAI), k + d = sln j → rFr FI F → (∀ a, a ≠ 4 → A a = AI a) → sSt b n p1 f j k → (∀ i : Nat, i < k → A 4 i = sV b n p1 i) → F 3 3 = tI b n p1 k → zV G 2 [some (zR 3), some (zA (10 + zSlo.getD j 0)), some (zI (k : Int))] [] T FR AR F A 0 0 from by
    refine zv_iconst C dX6_readsNumbers_0 rfl ?_
    refine zv_istore_2 C dX6_readsNumbers_1 rfl rfl ?_
    exact lp (sln j) 0 FI AI (by omega) rFr.rfl (fun _ _ => rfl) sSt_0 (fun i hi => by omega) h3
  intro d
  induction d with
  | zero =>
    intro k F A hkd hF hAf hs hv h3
    have g0 := tI_ge (b := b) (n := n) (p := p1) k
    have g1 := tI_b (b := b) (n := n) (f := f) (j := j) pn k hs
    refine zv_iload_n C dX6_readsNumbers_2 rfl ?_
    refine zv_aload_n C dX6_readsNumbers_3 rfl rfl ?_
    refine zv_cAi0_0 C dX6_readsNumbers_4 k_J0_length_8abf5 l_X6_87 (zOS_str z0) ⟨Nat.le_of_ble_eq_true rfl, Nat.le_of_ble_eq_true rfl⟩ ⟨rfl, rfl⟩ ⟨Nat.le_of_ble_eq_true rfl, Nat.le_of_ble_eq_true rfl⟩ rfl rfl ?_
    refine s_J0_length_8abf5 z0 ?_
    rw [z1]
    refine zv_icmp_ge C 91 dX6_readsNumbers_7 rfl (fun h7 => ?_) (fun h7 => absurd h7 (by omega))
    refine zv_aload_n C dX6_readsNumbers_91 rfl rfl ?_
    refine zv_cVv0_0 C dX6_readsNumbers_92 k_X6_advance l_X6_42 hd.2.2.2.1 rfl ⟨Nat.le_of_ble_eq_true rfl, Nat.le_of_ble_eq_true rfl⟩ ⟨rfl, rfl⟩ ⟨Nat.le_of_ble_eq_true rfl, Nat.le_of_ble_eq_true rfl⟩ rfl rfl ?_
    refine s_X6_advance (b := b) hd hrt (by rw [hF 1 1 (by omega)]; exact hn) hn0 hn2 (fun q q0 q1 => by rw [hAf 2 (by omega)]; exact hb q q0 q1) (by rw [h3]; omega) (by rw [h3]; omega) (fun F1 f1 a1 => ?_)
    rw [h3] at a1
    have hF1 := hF.trans f1
    refine zv_aload_n C dX6_readsNumbers_95 rfl rfl ?_
    refine zv_getI C dX6_readsNumbers_96 f_X6_45 hd.2.2.2.1 rfl ?_
    refine zv_iconst C dX6_readsNumbers_99 rfl ?_
    rw [a1.2.1]
    refine zv_icmp_eq C 111 dX6_readsNumbers_100 rfl (fun h100 => ?_) (fun h100 => ?_)
    · refine zv_iconst C dX6_readsNumbers_111 rfl ?_
      refine zv_goto C 116 dX6_readsNumbers_112 rfl ?_
      refine zv_ireturn C dX6_readsNumbers_116 rfl rfl rfl rfl ?_
      have ek : k = sln j := by omega
      subst ek
      exact h1 _ _ hF1 hAf ⟨hs, by omega⟩ hv (by rw [a1.2.2.1 (by omega)])
    · refine zv_aload_n C dX6_readsNumbers_103 rfl rfl ?_
      refine zv_iconst C dX6_readsNumbers_104 rfl ?_
      refine zv_cVi0_1 C dX6_readsNumbers_105 k_X6_refuse l_X6_52 hd.2.2.2.1 rfl ⟨Nat.le_of_ble_eq_true rfl, Nat.le_of_ble_eq_true rfl⟩ ⟨rfl, rfl⟩ ⟨Nat.le_of_ble_eq_true rfl, Nat.le_of_ble_eq_true rfl⟩ rfl rfl ?_
      refine s_X6_refuse hd ?_
      refine zv_if_eq C 115 dX6_readsNumbers_108 rfl (fun _ => ?_) (fun h => absurd h (by omega))
      refine zv_iconst C dX6_readsNumbers_115 rfl ?_
      refine zv_ireturn C dX6_readsNumbers_116 rfl rfl rfl rfl ?_
      have ek : k = sln j := by omega
      subst ek
      refine h0 _ _ (hF1.m hAf).set8 ?_
      rw [zsF_eq, zsF_ne (by decide), a1.1]
      exact Or.inr ⟨hs, by omega, rfl, rfl⟩
  | succ d ih =>
    intro k F A hkd hF hAf hs hv h3
    have g0 := tI_ge (b := b) (n := n) (p := p1) k
    have g1 := tI_b (b := b) (n := n) (f := f) (j := j) pn k hs
    have hkl : k < sln j := by omega
    refine zv_iload_n C dX6_readsNumbers_2 rfl ?_
    refine zv_aload_n C dX6_readsNumbers_3 rfl rfl ?_
    refine zv_cAi0_0 C dX6_readsNumbers_4 k_J0_length_8abf5 l_X6_87 (zOS_str z0) ⟨Nat.le_of_ble_eq_true rfl, Nat.le_of_ble_eq_true rfl⟩ ⟨rfl, rfl⟩ ⟨Nat.le_of_ble_eq_true rfl, Nat.le_of_ble_eq_true rfl⟩ rfl rfl ?_
    refine s_J0_length_8abf5 z0 ?_
    rw [z1]
    refine zv_icmp_ge C 91 dX6_readsNumbers_7 rfl (fun h7 => absurd h7 (by omega)) (fun h7 => ?_)
    refine zv_iload_n C dX6_readsNumbers_10 rfl ?_
    refine zv_aload_n C dX6_readsNumbers_11 rfl rfl ?_
    refine zv_getR C dX6_readsNumbers_12 f_X6_18 hd.2.2.2.1 rfl hd.2.2.2.2.2.2.2.2.2.2.2.2.2.2.2.2.1 ?_
    refine zv_alen C dX6_readsNumbers_15 hd.2.2.2.2.1 rfl (by decide) ?_
    refine zv_icmp_ge C 91 dX6_readsNumbers_16 rfl (fun h16 => absurd h16 (by omega)) (fun h16 => ?_)
    refine zv_aload_n C dX6_readsNumbers_19 rfl rfl ?_
    refine zv_cVv0_0 C dX6_readsNumbers_20 k_X6_advance l_X6_42 hd.2.2.2.1 rfl ⟨Nat.le_of_ble_eq_true rfl, Nat.le_of_ble_eq_true rfl⟩ ⟨rfl, rfl⟩ ⟨Nat.le_of_ble_eq_true rfl, Nat.le_of_ble_eq_true rfl⟩ rfl rfl ?_
    refine s_X6_advance (b := b) hd hrt (by rw [hF 1 1 (by omega)]; exact hn) hn0 hn2 (fun q q0 q1 => by rw [hAf 2 (by omega)]; exact hb q q0 q1) (by rw [h3]; omega) (by rw [h3]; omega) (fun F1 f1 a1 => ?_)
    rw [h3] at a1
    have hF1 := hF.trans f1
    refine zv_aload_n C dX6_readsNumbers_23 rfl rfl ?_
    refine zv_getI C dX6_readsNumbers_24 f_X6_45 hd.2.2.2.1 rfl ?_
    refine zv_iconst C dX6_readsNumbers_27 rfl ?_
    rw [a1.2.1]
    refine zv_icmp_eq C 37 dX6_readsNumbers_28 rfl (fun h28 => ?_) (fun h28 => ?_)
    · refine zv_aload_n C dX6_readsNumbers_37 rfl rfl ?_
      refine zv_getI C dX6_readsNumbers_38 f_X6_128 hd.2.2.2.1 rfl ?_
      refine zv_aload_n C dX6_readsNumbers_41 rfl rfl ?_
      refine zv_aload_n C dX6_readsNumbers_42 rfl rfl ?_
      refine zv_iload_n C dX6_readsNumbers_43 rfl ?_
      refine zv_cAi0_1 C dX6_readsNumbers_44 k_J0_charAt_5068e l_X6_96 (zOS_str z0) ⟨Nat.le_of_ble_eq_true rfl, Nat.le_of_ble_eq_true rfl⟩ ⟨rfl, rfl⟩ ⟨Nat.le_of_ble_eq_true rfl, Nat.le_of_ble_eq_true rfl⟩ rfl rfl ?_
      refine s_J0_charAt_5068e z0 (by omega) (by rw [z1]; omega) ?_
      refine zv_cVi0_1 C dX6_readsNumbers_47 k_X6_least l_X6_131 hd.2.2.2.1 rfl ⟨Nat.le_of_ble_eq_true rfl, Nat.le_of_ble_eq_true rfl⟩ ⟨rfl, rfl⟩ ⟨Nat.le_of_ble_eq_true rfl, Nat.le_of_ble_eq_true rfl⟩ rfl rfl ?_
      refine s_X6_least hd ?_
      rw [zLe_s (V := sV b n p1) (X := A 4 2) hj hkl (fun e => hv 2 (by omega)), a1.2.2.2 (by omega)]
      refine zv_icmp_lt C 69 dX6_readsNumbers_50 rfl (fun h50 => ?_) (fun h50 => ?_)
      · refine zv_aload_n C dX6_readsNumbers_69 rfl rfl ?_
        refine zv_iconst C dX6_readsNumbers_70 rfl ?_
        refine zv_cVi0_1 C dX6_readsNumbers_71 k_X6_refuse l_X6_52 hd.2.2.2.1 rfl ⟨Nat.le_of_ble_eq_true rfl, Nat.le_of_ble_eq_true rfl⟩ ⟨rfl, rfl⟩ ⟨Nat.le_of_ble_eq_true rfl, Nat.le_of_ble_eq_true rfl⟩ rfl rfl ?_
        refine s_X6_refuse hd ?_
        refine zv_ireturn C dX6_readsNumbers_74 rfl rfl rfl rfl ?_
        refine h0 _ _ (hF1.m hAf).set8 ?_
        rw [zsF_eq, zsF_ne (by decide), a1.1]
        exact sBd_n k hkl hs (fun z => by have := z.2; omega) (by rw [if_pos (by omega)]) rfl
      · refine zv_aload_n C dX6_readsNumbers_53 rfl rfl ?_
        refine zv_getI C dX6_readsNumbers_54 f_X6_128 hd.2.2.2.1 rfl ?_
        refine zv_aload_n C dX6_readsNumbers_57 rfl rfl ?_
        refine zv_aload_n C dX6_readsNumbers_58 rfl rfl ?_
        refine zv_iload_n C dX6_readsNumbers_59 rfl ?_
        refine zv_cAi0_1 C dX6_readsNumbers_60 k_J0_charAt_5068e l_X6_96 (zOS_str z0) ⟨Nat.le_of_ble_eq_true rfl, Nat.le_of_ble_eq_true rfl⟩ ⟨rfl, rfl⟩ ⟨Nat.le_of_ble_eq_true rfl, Nat.le_of_ble_eq_true rfl⟩ rfl rfl ?_
        refine s_J0_charAt_5068e z0 (by omega) (by rw [z1]; omega) ?_
        refine zv_cVi0_1 C dX6_readsNumbers_63 k_X6_most l_X6_135 hd.2.2.2.1 rfl ⟨Nat.le_of_ble_eq_true rfl, Nat.le_of_ble_eq_true rfl⟩ ⟨rfl, rfl⟩ ⟨Nat.le_of_ble_eq_true rfl, Nat.le_of_ble_eq_true rfl⟩ rfl rfl ?_
        refine s_X6_most hd hrb hD (by rw [hF1 D 6 (by omega), hf]; exact gf) ?_
        rw [hF1 D 6 (by omega), hf, zMo_s hj hkl, a1.2.2.2 (by omega)]
        refine zv_icmp_le C 75 dX6_readsNumbers_66 rfl (fun h66 => ?_) (fun h66 => ?_)
        · refine zv_aload_n C dX6_readsNumbers_75 rfl rfl ?_
          refine zv_getR C dX6_readsNumbers_76 f_X6_18 hd.2.2.2.1 rfl hd.2.2.2.2.2.2.2.2.2.2.2.2.2.2.2.2.1 ?_
          refine zv_iload_n C dX6_readsNumbers_79 rfl ?_
          refine zv_aload_n C dX6_readsNumbers_80 rfl rfl ?_
          refine zv_getI C dX6_readsNumbers_81 f_X6_128 hd.2.2.2.1 rfl ?_
          rw [a1.2.2.2 (by omega)]
          refine zv_iastore C dX6_readsNumbers_84 hd.2.2.2.2.1 ⟨by omega, by omega⟩ ?_
          refine zv_iinc_2 C dX6_readsNumbers_85 rfl rfl ⟨by omega, by omega⟩ ?_
          refine zv_goto C 2 dX6_readsNumbers_88 rfl ?_
          have hn9 : sNum b n (tI b n p1 k) (slo j (sV b n p1) k) (shi j f k) := ⟨by omega, by omega, by omega⟩
          refine ih (k + 1) F1 _ (by omega) hF1 (fun a ha => (zsA_neF ha).trans (hAf a ha)) (sSt_s hs hn9) (fun i hi => ?_) (a1.2.2.1 (by omega))
          by_cases c : i = k
          · subst c; exact zsA_eq
          · rw [zsA_nj (by omega)]; exact hv i (by omega)
        · refine zv_aload_n C dX6_readsNumbers_69 rfl rfl ?_
          refine zv_iconst C dX6_readsNumbers_70 rfl ?_
          refine zv_cVi0_1 C dX6_readsNumbers_71 k_X6_refuse l_X6_52 hd.2.2.2.1 rfl ⟨Nat.le_of_ble_eq_true rfl, Nat.le_of_ble_eq_true rfl⟩ ⟨rfl, rfl⟩ ⟨Nat.le_of_ble_eq_true rfl, Nat.le_of_ble_eq_true rfl⟩ rfl rfl ?_
          refine s_X6_refuse hd ?_
          refine zv_ireturn C dX6_readsNumbers_74 rfl rfl rfl rfl ?_
          refine h0 _ _ (hF1.m hAf).set8 ?_
          rw [zsF_eq, zsF_ne (by decide), a1.1]
          exact sBd_n k hkl hs (fun z => by have := z.2; omega) (by rw [if_pos (by omega)]) rfl
    · refine zv_aload_n C dX6_readsNumbers_31 rfl rfl ?_
      refine zv_iconst C dX6_readsNumbers_32 rfl ?_
      refine zv_cVi0_1 C dX6_readsNumbers_33 k_X6_refuse l_X6_52 hd.2.2.2.1 rfl ⟨Nat.le_of_ble_eq_true rfl, Nat.le_of_ble_eq_true rfl⟩ ⟨rfl, rfl⟩ ⟨Nat.le_of_ble_eq_true rfl, Nat.le_of_ble_eq_true rfl⟩ rfl rfl ?_
      refine s_X6_refuse hd ?_
      refine zv_ireturn C dX6_readsNumbers_36 rfl rfl rfl rfl ?_
      refine h0 _ _ (hF1.m hAf).set8 ?_
      rw [zsF_eq, zsF_ne (by decide), a1.1]
      exact sBd_n k hkl hs (fun z => by have := z.1; omega) (by rw [if_neg (by omega)]) rfl

