set_option maxRecDepth 20000 in
theorem s_X9_bears {T : zTt} {FR : zFR} {AR : zAR} {FI : zFI} {AI : zAI} {Post : zPost} {o : Int} {nI nL : Nat}  (hL : mLay T FR) (hW : mW (AI 111) nI nL) (g0 : 0 ≤ o) (g1 : o < 3) (hp : Post (zI 0) T FR AR FI (zrow AI 111 (nBears (AI 111) nI nL o))) : zMet M_X9_bears [zR 100, zI o] T FR AR FI AI Post := by
  refine zMet.of [some (zR 100), some (zI o), none, none, none, none] rfl rfl rfl (fun G C => ?_)
  obtain ⟨w0, w1, w2, w3, w4, w5, w6, w7, w8, w9⟩ := id hW
  have ib := mInc_b hW g0 g1
  have tb1 := mTax_b hW o (AI 111 0)
  have tb2 := mDed_b hW o (AI 111 0)
  have pb := (w7 o (AI 111 0) g0 g1 w0.1 (by omega)).2
  unfold mTax at tb1
  unfold mDed at tb2
  have hS := nB1_same (N := AI 111) (nI := nI) (o := o) g0 w0.1
  have hW1 := mW_c hS hW
  have hpA : mInc (AI 111) nI o < 0 → 0 < AI 111 1 → AI 111 4 < 10 → Post (zI 0) T FR AR FI (zrow AI 111 (nLoss (nB1 (AI 111) nI o) o (-(mInc (AI 111) nI o)) (if AI 111 0 + AI 111 1 < 40 then AI 111 0 + AI 111 1 else 39))) := fun a b c => by
    unfold nBears at hp
    rw [if_pos ⟨a, b, c⟩] at hp
    exact hp
  have hpB : mInc (AI 111) nI o ≤ 0 → (mInc (AI 111) nI o = 0 ∨ AI 111 1 ≤ 0 ∨ 10 ≤ AI 111 4) → Post (zI 0) T FR AR FI (zrow AI 111 (nB1 (AI 111) nI o)) := fun a b => by
    unfold nBears at hp
    rw [if_neg (fun z => by have z1 := z.1; have z2 := z.2.1; have z3 := z.2.2; omega), if_neg (by omega)] at hp
    exact hp
  have hpC : 0 < mInc (AI 111) nI o → Post (zI 0) T FR AR FI (zrow AI 111 (nUse (nB1 (AI 111) nI o) nL (mLeft (nB1 (AI 111) nI o) nL o (AI 111 0) (mInc (AI 111) nI o)))) := fun a => by
    unfold nBears at hp
    rw [if_neg (fun z => by have z1 := z.1; omega), if_pos a] at hp
    exact hp
  clear hp
  suffices J43 : zV G 43 [some (zR 100), some (zI o), some (zI (AI 111 0)), some (zI (mInc (AI 111) nI o)), none, none] [] T FR AR FI (zrow AI 111 (nB1 (AI 111) nI o)) 0 0 from by
    refine zv_aload_n C dX9_bears_0 rfl rfl ?_
    refine zv_getR C dX9_bears_1 f_X9_74 hL.1 rfl hL.2.2.2.2.2.2.2.2.2.2.2.2.2.2.2.1 ?_
    refine zv_iconst C dX9_bears_4 rfl ?_
    refine zv_iaload C dX9_bears_5 hL.2.2.1 ⟨by omega, by omega⟩ ?_
    refine zv_istore_2 C dX9_bears_6 rfl rfl ?_
    refine zv_aload_n C dX9_bears_7 rfl rfl ?_
    refine zv_iload_n C dX9_bears_8 rfl ?_
    refine zv_iload_n C dX9_bears_9 rfl ?_
    refine zv_cVi0_2 C dX9_bears_10 k_X9_profitOf l_X9_196 hL.1 rfl ⟨Nat.le_of_ble_eq_true rfl, Nat.le_of_ble_eq_true rfl⟩ ⟨rfl, rfl⟩ ⟨Nat.le_of_ble_eq_true rfl, Nat.le_of_ble_eq_true rfl⟩ rfl rfl ?_
    refine s_X9_profitOf hL g0 g1 (by omega) (by omega) ?_
    refine zv_aload_n C dX9_bears_13 rfl rfl ?_
    refine zv_iload_n C dX9_bears_14 rfl ?_
    refine zv_iload_n C dX9_bears_15 rfl ?_
    refine zv_iconst C dX9_bears_16 rfl ?_
    refine zv_cVi0_3 C dX9_bears_17 k_X9_partsOf l_X9_192 hL.1 rfl ⟨Nat.le_of_ble_eq_true rfl, Nat.le_of_ble_eq_true rfl⟩ ⟨rfl, rfl⟩ ⟨Nat.le_of_ble_eq_true rfl, Nat.le_of_ble_eq_true rfl⟩ rfl rfl ?_
    refine s_X9_partsOf hL w3 w4 w8 (by omega) (by omega) ?_
    refine zv_iadd C dX9_bears_20 ⟨by omega, by omega⟩ ?_
    refine zv_aload_n C dX9_bears_21 rfl rfl ?_
    refine zv_iload_n C dX9_bears_22 rfl ?_
    refine zv_iload_n C dX9_bears_23 rfl ?_
    refine zv_iconst C dX9_bears_24 rfl ?_
    refine zv_cVi0_3 C dX9_bears_25 k_X9_partsOf l_X9_192 hL.1 rfl ⟨Nat.le_of_ble_eq_true rfl, Nat.le_of_ble_eq_true rfl⟩ ⟨rfl, rfl⟩ ⟨Nat.le_of_ble_eq_true rfl, Nat.le_of_ble_eq_true rfl⟩ rfl rfl ?_
    refine s_X9_partsOf hL w3 w4 w8 (by omega) (by omega) ?_
    refine zv_isub C dX9_bears_28 ⟨by omega, by omega⟩ ?_
    refine zv_istore_3 C dX9_bears_29 rfl rfl ?_
    refine zv_aload_n C dX9_bears_30 rfl rfl ?_
    refine zv_getR C dX9_bears_31 f_X9_74 hL.1 rfl hL.2.2.2.2.2.2.2.2.2.2.2.2.2.2.2.1 ?_
    refine zv_iload_n C dX9_bears_34 rfl ?_
    refine zv_iload_n C dX9_bears_35 rfl ?_
    refine zv_cSi0_2 C dX9_bears_36 k_X9_closingAt l_X9_257 ⟨Nat.le_of_ble_eq_true rfl, Nat.le_of_ble_eq_true rfl⟩ ⟨rfl, rfl⟩ ⟨Nat.le_of_ble_eq_true rfl, Nat.le_of_ble_eq_true rfl⟩ rfl rfl ?_
    refine s_X9_closingAt g0 g1 (by omega) (by omega) ?_
    refine zv_iconst C dX9_bears_39 rfl ?_
    refine zv_iadd C dX9_bears_40 ⟨by omega, by omega⟩ ?_
    refine zv_iload_n C dX9_bears_41 rfl ?_
    refine zv_iastore C dX9_bears_42 hL.2.2.1 ⟨by omega, by omega⟩ ?_
    rw [zsA_row]
    exact J43
  have e0 : nB1 (AI 111) nI o 0 = AI 111 0 := hS 0 (by omega) (by omega)
  have e1 : nB1 (AI 111) nI o 1 = AI 111 1 := hS 1 (by omega) (by omega)
  have e4 : nB1 (AI 111) nI o 4 = AI 111 4 := hS 4 (by omega) (by omega)
  have w91 := hW1.2.2.2.2.2.2.2.2.2
  generalize hN1 : nB1 (AI 111) nI o = N1 at *
  generalize hinc : mInc (AI 111) nI o = inc at *
  have hnn : ∀ l : Int, 0 ≤ l → l < nL → 0 ≤ mLf N1 l := fun l a c => (w91 l a c).2.2.2.1
  have hpN2 : 0 < inc → ∀ N2, zUsd N1 N2 nL (mLeft N1 nL o (AI 111 0) inc) → Post (zI 0) T FR AR FI (zrow AI 111 N2) := fun a N2 hu => by
    rw [zUsd_eq hu]
    exact hpC a
  suffices lpO : 0 < inc → ∀ (d : Nat) (u b : Int) (a5 : Option zVal) (N2 : Int → Int), (inc - u).toNat ≤ d → 0 ≤ u → u ≤ inc → 0 ≤ b → N2 4 = nL → zBr N1 N2 nL o (AI 111 0) u → zV G 104 [some (zR 100), some (zI o), some (zI (AI 111 0)), some (zI (inc - u)), some (zI b), a5] [] T FR AR FI (zrow AI 111 N2) 0 0 from by
    refine zv_iload_n C dX9_bears_43 rfl ?_
    refine zv_if_ge C 101 dX9_bears_44 rfl (fun h44 => ?_) (fun h44 => ?_)
    · refine zv_iconst C dX9_bears_101 rfl ?_
      refine zv_istore_4 C dX9_bears_102 rfl rfl ?_
      by_cases hi : 0 < inc
      · have q := lpO hi inc.toNat 0 0 none N1 (by omega) (by omega) (by omega) (by omega) (by omega) (zBr_0 hnn)
        rw [Int.sub_zero] at q
        first | exact q | (exfalso; omega)
      · refine zv_iload_n C dX9_bears_104 rfl ?_
        refine zv_if_le C 255 dX9_bears_105 rfl (fun h105 => ?_) (fun h105 => absurd h105 (by omega))
        refine zv_return C dX9_bears_255 rfl rfl rfl ?_
        first
        | exact hpB (by omega) (by omega)
        | (have z := hpA (by omega) (by omega) (by omega); first | (rw [if_pos (by omega)] at z; exact z) | (rw [if_neg (by omega)] at z; exact z))
    · refine zv_aload_n C dX9_bears_47 rfl rfl ?_
      refine zv_getR C dX9_bears_48 f_X9_74 hL.1 rfl hL.2.2.2.2.2.2.2.2.2.2.2.2.2.2.2.1 ?_
      refine zv_iconst C dX9_bears_51 rfl ?_
      refine zv_iaload C dX9_bears_52 hL.2.2.1 ⟨by omega, by omega⟩ ?_
      rw [zrow_eq, e1]
      refine zv_if_le C 101 dX9_bears_53 rfl (fun h53 => ?_) (fun h53 => ?_)
      · refine zv_iconst C dX9_bears_101 rfl ?_
        refine zv_istore_4 C dX9_bears_102 rfl rfl ?_
        by_cases hi : 0 < inc
        · have q := lpO hi inc.toNat 0 0 none N1 (by omega) (by omega) (by omega) (by omega) (by omega) (zBr_0 hnn)
          rw [Int.sub_zero] at q
          first | exact q | (exfalso; omega)
        · refine zv_iload_n C dX9_bears_104 rfl ?_
          refine zv_if_le C 255 dX9_bears_105 rfl (fun h105 => ?_) (fun h105 => absurd h105 (by omega))
          refine zv_return C dX9_bears_255 rfl rfl rfl ?_
          first
          | exact hpB (by omega) (by omega)
          | (have z := hpA (by omega) (by omega) (by omega); first | (rw [if_pos (by omega)] at z; exact z) | (rw [if_neg (by omega)] at z; exact z))
      · refine zv_aload_n C dX9_bears_56 rfl rfl ?_
        refine zv_getR C dX9_bears_57 f_X9_74 hL.1 rfl hL.2.2.2.2.2.2.2.2.2.2.2.2.2.2.2.1 ?_
        refine zv_iconst C dX9_bears_60 rfl ?_
        refine zv_iaload C dX9_bears_61 hL.2.2.1 ⟨by omega, by omega⟩ ?_
        rw [zrow_eq, e4]
        refine zv_bipush C dX9_bears_62 rfl ?_
        refine zv_icmp_ge C 101 dX9_bears_64 rfl (fun h64 => ?_) (fun h64 => ?_)
        · refine zv_iconst C dX9_bears_101 rfl ?_
          refine zv_istore_4 C dX9_bears_102 rfl rfl ?_
          by_cases hi : 0 < inc
          · have q := lpO hi inc.toNat 0 0 none N1 (by omega) (by omega) (by omega) (by omega) (by omega) (zBr_0 hnn)
            rw [Int.sub_zero] at q
            first | exact q | (exfalso; omega)
          · refine zv_iload_n C dX9_bears_104 rfl ?_
            refine zv_if_le C 255 dX9_bears_105 rfl (fun h105 => ?_) (fun h105 => absurd h105 (by omega))
            refine zv_return C dX9_bears_255 rfl rfl rfl ?_
            first
            | exact hpB (by omega) (by omega)
            | (have z := hpA (by omega) (by omega) (by omega); first | (rw [if_pos (by omega)] at z; exact z) | (rw [if_neg (by omega)] at z; exact z))
        · refine zv_aload_n C dX9_bears_67 rfl rfl ?_
          refine zv_iload_n C dX9_bears_68 rfl ?_
          refine zv_iload_n C dX9_bears_69 rfl ?_
          refine zv_ineg C dX9_bears_70 ⟨by omega, by omega⟩ ?_
          refine zv_iload_n C dX9_bears_71 rfl ?_
          refine zv_aload_n C dX9_bears_72 rfl rfl ?_
          refine zv_getR C dX9_bears_73 f_X9_74 hL.1 rfl hL.2.2.2.2.2.2.2.2.2.2.2.2.2.2.2.1 ?_
          refine zv_iconst C dX9_bears_76 rfl ?_
          refine zv_iaload C dX9_bears_77 hL.2.2.1 ⟨by omega, by omega⟩ ?_
          rw [zrow_eq, e1]
          refine zv_iadd C dX9_bears_78 ⟨by omega, by omega⟩ ?_
          refine zv_bipush C dX9_bears_79 rfl ?_
          refine zv_icmp_ge C 95 dX9_bears_81 rfl (fun h81 => ?_) (fun h81 => ?_)
          · refine zv_bipush C dX9_bears_95 rfl ?_
            refine zv_cVi0_3 C dX9_bears_97 k_X9_addsLoss l_X9_269 hL.1 rfl ⟨Nat.le_of_ble_eq_true rfl, Nat.le_of_ble_eq_true rfl⟩ ⟨rfl, rfl⟩ ⟨Nat.le_of_ble_eq_true rfl, Nat.le_of_ble_eq_true rfl⟩ rfl rfl ?_
            refine s_X9_addsLoss hL (by rw [zrow_eq]; omega) (by rw [zrow_eq]; omega) ?_
            rw [zrow_eqF, zrow_zrow]
            refine zv_pop C dX9_bears_100 rfl ?_
            refine zv_iconst C dX9_bears_101 rfl ?_
            refine zv_istore_4 C dX9_bears_102 rfl rfl ?_
            by_cases hi : 0 < inc
            · have q := lpO hi inc.toNat 0 0 none N1 (by omega) (by omega) (by omega) (by omega) (by omega) (zBr_0 hnn)
              rw [Int.sub_zero] at q
              first | exact q | (exfalso; omega)
            · refine zv_iload_n C dX9_bears_104 rfl ?_
              refine zv_if_le C 255 dX9_bears_105 rfl (fun h105 => ?_) (fun h105 => absurd h105 (by omega))
              refine zv_return C dX9_bears_255 rfl rfl rfl ?_
              first
              | exact hpB (by omega) (by omega)
              | (have z := hpA (by omega) (by omega) (by omega); first | (rw [if_pos (by omega)] at z; exact z) | (rw [if_neg (by omega)] at z; exact z))
          · refine zv_iload_n C dX9_bears_84 rfl ?_
            refine zv_aload_n C dX9_bears_85 rfl rfl ?_
            refine zv_getR C dX9_bears_86 f_X9_74 hL.1 rfl hL.2.2.2.2.2.2.2.2.2.2.2.2.2.2.2.1 ?_
            refine zv_iconst C dX9_bears_89 rfl ?_
            refine zv_iaload C dX9_bears_90 hL.2.2.1 ⟨by omega, by omega⟩ ?_
            rw [zrow_eq, e1]
            refine zv_iadd C dX9_bears_91 ⟨by omega, by omega⟩ ?_
            refine zv_goto C 97 dX9_bears_92 rfl ?_
            refine zv_cVi0_3 C dX9_bears_97 k_X9_addsLoss l_X9_269 hL.1 rfl ⟨Nat.le_of_ble_eq_true rfl, Nat.le_of_ble_eq_true rfl⟩ ⟨rfl, rfl⟩ ⟨Nat.le_of_ble_eq_true rfl, Nat.le_of_ble_eq_true rfl⟩ rfl rfl ?_
            refine s_X9_addsLoss hL (by rw [zrow_eq]; omega) (by rw [zrow_eq]; omega) ?_
            rw [zrow_eqF, zrow_zrow]
            refine zv_pop C dX9_bears_100 rfl ?_
            refine zv_iconst C dX9_bears_101 rfl ?_
            refine zv_istore_4 C dX9_bears_102 rfl rfl ?_
            by_cases hi : 0 < inc
            · have q := lpO hi inc.toNat 0 0 none N1 (by omega) (by omega) (by omega) (by omega) (by omega) (zBr_0 hnn)
              rw [Int.sub_zero] at q
              first | exact q | (exfalso; omega)
            · refine zv_iload_n C dX9_bears_104 rfl ?_
              refine zv_if_le C 255 dX9_bears_105 rfl (fun h105 => ?_) (fun h105 => absurd h105 (by omega))
              refine zv_return C dX9_bears_255 rfl rfl rfl ?_
              first
              | exact hpB (by omega) (by omega)
              | (have z := hpA (by omega) (by omega) (by omega); first | (rw [if_pos (by omega)] at z; exact z) | (rw [if_neg (by omega)] at z; exact z))
  intro hi d
  induction d with
  | zero =>
    intro u b a5 N2 hd h0 h1 hb hn4 hB
    refine zv_iload_n C dX9_bears_104 rfl ?_
    refine zv_if_le C 255 dX9_bears_105 rfl (fun h105 => ?_) (fun h105 => absurd h105 (by omega))
    refine zv_return C dX9_bears_255 rfl rfl rfl ?_
    have eu : u = inc := by omega
    refine hpN2 hi N2 (zBr_end (w := inc) (b := 0) hnn hB (by omega) (Or.inl eu))
  | succ d ih =>
    intro u b a5 N2 hd h0 h1 hb hn4 hB
    suffices lpI : u < inc → ∀ (dd : Nat) (k best : Int), k + dd = nL → 0 ≤ k → zNb N2 o (AI 111 0) k best → zV G 120 [some (zR 100), some (zI o), some (zI (AI 111 0)), some (zI (inc - u)), some (zI best), some (zI k)] [] T FR AR FI (zrow AI 111 N2) 0 0 from by
      refine zv_iload_n C dX9_bears_104 rfl ?_
      refine zv_if_le C 255 dX9_bears_105 rfl (fun h105 => ?_) (fun h105 => ?_)
      · refine zv_return C dX9_bears_255 rfl rfl rfl ?_
        have eu : u = inc := by omega
        refine hpN2 hi N2 (zBr_end (w := inc) (b := 0) hnn hB (by omega) (Or.inl eu))
      · refine zv_iload C dX9_bears_108 rfl ?_
        refine zv_iconst C dX9_bears_110 rfl ?_
        refine zv_icmp_eq C 255 dX9_bears_111 rfl (fun h111 => absurd h111 (by omega)) (fun h111 => ?_)
        refine zv_iconst C dX9_bears_114 rfl ?_
        refine zv_istore_4 C dX9_bears_115 rfl rfl ?_
        refine zv_iconst C dX9_bears_117 rfl ?_
        refine zv_istore_5 C dX9_bears_118 rfl rfl ?_
        exact lpI (by omega) nL 0 (-1) (by omega) (by omega) (Or.inl ⟨rfl, fun q a c => by omega⟩)
    intro hu dd
    induction dd with
    | zero =>
      intro k best hk hk0 hb2
      have ek : k = nL := by omega
      subst ek
      by_cases cb : best = -1
      · subst cb
        refine zv_iload C dX9_bears_120 rfl ?_
        refine zv_aload_n C dX9_bears_122 rfl rfl ?_
        refine zv_getR C dX9_bears_123 f_X9_74 hL.1 rfl hL.2.2.2.2.2.2.2.2.2.2.2.2.2.2.2.1 ?_
        refine zv_iconst C dX9_bears_126 rfl ?_
        refine zv_iaload C dX9_bears_127 hL.2.2.1 ⟨by omega, by omega⟩ ?_
        rw [zrow_eq]
        refine zv_icmp_ge C 196 dX9_bears_128 rfl (fun h128 => ?_) (fun h128 => absurd h128 (by omega))
        refine zv_iload C dX9_bears_196 rfl ?_
        refine zv_iconst C dX9_bears_198 rfl ?_
        refine zv_icmp_ne C 203 dX9_bears_199 rfl (fun h199 => absurd h199 (by omega)) (fun h199 => ?_)
        refine zv_return C dX9_bears_202 rfl rfl rfl ?_
        exact hpN2 hi N2 (zBr_end hnn hB (by omega) (Or.inr ⟨rfl, hb2⟩))
      · have bi := zNb_in hb2 cb
        have bx : 0 ≤ mLf N2 best ∧ mLf N2 best ≤ 3000000 := by
          obtain ⟨q1, q2, q3⟩ := zBr_at hB bi.1 bi.2
          have q4 := ztk_b (el := mEl N1 o (AI 111 0)) (ls := mLs N1) (nL := nL) (u := u) (hnn best bi.1 bi.2)
          have q5 := w91 best bi.1 bi.2
          have q6 : mLf N1 best = mLo N1 best 3 := rfl
          obtain ⟨-, q7, -, q8⟩ := q5
          rw [q3]
          unfold mLeft
          omega
        have bp : 0 < mLf N2 best := by
          rcases hb2 with ⟨z, -⟩ | ⟨-, -, -, z, -⟩
          · exact absurd z cb
          · exact z
        unfold mLf at bx bp
        refine zv_iload C dX9_bears_120 rfl ?_
        refine zv_aload_n C dX9_bears_122 rfl rfl ?_
        refine zv_getR C dX9_bears_123 f_X9_74 hL.1 rfl hL.2.2.2.2.2.2.2.2.2.2.2.2.2.2.2.1 ?_
        refine zv_iconst C dX9_bears_126 rfl ?_
        refine zv_iaload C dX9_bears_127 hL.2.2.1 ⟨by omega, by omega⟩ ?_
        rw [zrow_eq]
        refine zv_icmp_ge C 196 dX9_bears_128 rfl (fun h128 => ?_) (fun h128 => absurd h128 (by omega))
        refine zv_iload C dX9_bears_196 rfl ?_
        refine zv_iconst C dX9_bears_198 rfl ?_
        refine zv_icmp_ne C 203 dX9_bears_199 rfl (fun h199 => ?_) (fun h199 => absurd h199 (by omega))
        refine zv_aload_n C dX9_bears_203 rfl rfl ?_
        refine zv_iload C dX9_bears_204 rfl ?_
        refine zv_iconst C dX9_bears_206 rfl ?_
        refine zv_cVi0_2 C dX9_bears_207 k_X9_lost l_X9_189 hL.1 rfl ⟨Nat.le_of_ble_eq_true rfl, Nat.le_of_ble_eq_true rfl⟩ ⟨rfl, rfl⟩ ⟨Nat.le_of_ble_eq_true rfl, Nat.le_of_ble_eq_true rfl⟩ rfl rfl ?_
        refine s_X9_lost hL (by omega) (by omega) (by omega) (by omega) ?_
        rw [zrow_eq]
        refine zv_iload_n C dX9_bears_210 rfl ?_
        refine zv_icmp_ge C 224 dX9_bears_211 rfl (fun h211 => ?_) (fun h211 => ?_)
        · refine zv_iload_n C dX9_bears_224 rfl ?_
          refine zv_istore_5 C dX9_bears_225 rfl rfl ?_
          refine zv_aload_n C dX9_bears_227 rfl rfl ?_
          refine zv_getR C dX9_bears_228 f_X9_74 hL.1 rfl hL.2.2.2.2.2.2.2.2.2.2.2.2.2.2.2.1 ?_
          refine zv_sipush C dX9_bears_231 rfl ?_
          refine zv_iconst C dX9_bears_234 rfl ?_
          refine zv_iload C dX9_bears_235 rfl ?_
          refine zv_imul C dX9_bears_237 ⟨by omega, by omega⟩ ?_
          refine zv_iadd C dX9_bears_238 ⟨by omega, by omega⟩ ?_
          refine zv_iconst C dX9_bears_239 rfl ?_
          refine zv_iadd C dX9_bears_240 ⟨by omega, by omega⟩ ?_
          refine zv_dup2 C dX9_bears_241 rfl rfl ?_
          refine zv_iaload C dX9_bears_242 hL.2.2.1 ⟨by omega, by omega⟩ ?_
          rw [zrow_eq]
          refine zv_iload C dX9_bears_243 rfl ?_
          refine zv_isub C dX9_bears_245 ⟨by omega, by omega⟩ ?_
          refine zv_iastore C dX9_bears_246 hL.2.2.1 ⟨by omega, by omega⟩ ?_
          rw [zrow_set]
          refine zv_iload_n C dX9_bears_247 rfl ?_
          refine zv_iload C dX9_bears_248 rfl ?_
          refine zv_isub C dX9_bears_250 ⟨by omega, by omega⟩ ?_
          refine zv_istore_3 C dX9_bears_251 rfl rfl ?_
          refine zv_goto C 104 dX9_bears_252 rfl ?_
          rw [show inc - u - (inc - u) = inc - (u + (inc - u)) by omega]
          refine ih (u + (inc - u)) best _ _ (by omega) (by omega) (by omega) (by omega) ?_ (zBr_step hnn hB hb2 cb (by omega) (by unfold mLf; omega))
          rw [zu1_ne (by omega)]
          exact hn4
        · refine zv_aload_n C dX9_bears_214 rfl rfl ?_
          refine zv_iload C dX9_bears_215 rfl ?_
          refine zv_iconst C dX9_bears_217 rfl ?_
          refine zv_cVi0_2 C dX9_bears_218 k_X9_lost l_X9_189 hL.1 rfl ⟨Nat.le_of_ble_eq_true rfl, Nat.le_of_ble_eq_true rfl⟩ ⟨rfl, rfl⟩ ⟨Nat.le_of_ble_eq_true rfl, Nat.le_of_ble_eq_true rfl⟩ rfl rfl ?_
          refine s_X9_lost hL (by omega) (by omega) (by omega) (by omega) ?_
          rw [zrow_eq]
          refine zv_goto C 225 dX9_bears_221 rfl ?_
          refine zv_istore_5 C dX9_bears_225 rfl rfl ?_
          refine zv_aload_n C dX9_bears_227 rfl rfl ?_
          refine zv_getR C dX9_bears_228 f_X9_74 hL.1 rfl hL.2.2.2.2.2.2.2.2.2.2.2.2.2.2.2.1 ?_
          refine zv_sipush C dX9_bears_231 rfl ?_
          refine zv_iconst C dX9_bears_234 rfl ?_
          refine zv_iload C dX9_bears_235 rfl ?_
          refine zv_imul C dX9_bears_237 ⟨by omega, by omega⟩ ?_
          refine zv_iadd C dX9_bears_238 ⟨by omega, by omega⟩ ?_
          refine zv_iconst C dX9_bears_239 rfl ?_
          refine zv_iadd C dX9_bears_240 ⟨by omega, by omega⟩ ?_
          refine zv_dup2 C dX9_bears_241 rfl rfl ?_
          refine zv_iaload C dX9_bears_242 hL.2.2.1 ⟨by omega, by omega⟩ ?_
          rw [zrow_eq]
          refine zv_iload C dX9_bears_243 rfl ?_
          refine zv_isub C dX9_bears_245 ⟨by omega, by omega⟩ ?_
          refine zv_iastore C dX9_bears_246 hL.2.2.1 ⟨by omega, by omega⟩ ?_
          rw [zrow_set]
          refine zv_iload_n C dX9_bears_247 rfl ?_
          refine zv_iload C dX9_bears_248 rfl ?_
          refine zv_isub C dX9_bears_250 ⟨by omega, by omega⟩ ?_
          refine zv_istore_3 C dX9_bears_251 rfl rfl ?_
          refine zv_goto C 104 dX9_bears_252 rfl ?_
          rw [show inc - u - N2 (395 + 4 * best + 3) = inc - (u + N2 (395 + 4 * best + 3)) by omega]
          refine ih (u + N2 (395 + 4 * best + 3)) best _ _ (by omega) (by omega) (by omega) (by omega) ?_ (zBr_step hnn hB hb2 cb (by omega) (by unfold mLf; omega))
          rw [zu1_ne (by omega)]
          exact hn4
    | succ dd ih2 =>
      intro k best hk hk0 hb2
      have el1 : N2 (395 + 4 * k + 0) = o ∧ AI 111 0 ≤ N2 (395 + 4 * k + 2) → mEl N2 o (AI 111 0) k = 1 := fun z => if_pos z
      have el0 : ¬ (N2 (395 + 4 * k + 0) = o ∧ AI 111 0 ≤ N2 (395 + 4 * k + 2)) → mEl N2 o (AI 111 0) k ≠ 1 := fun z => by unfold mEl; rw [if_neg z]; omega
      refine zv_iload C dX9_bears_120 rfl ?_
      refine zv_aload_n C dX9_bears_122 rfl rfl ?_
      refine zv_getR C dX9_bears_123 f_X9_74 hL.1 rfl hL.2.2.2.2.2.2.2.2.2.2.2.2.2.2.2.1 ?_
      refine zv_iconst C dX9_bears_126 rfl ?_
      refine zv_iaload C dX9_bears_127 hL.2.2.1 ⟨by omega, by omega⟩ ?_
      rw [zrow_eq]
      refine zv_icmp_ge C 196 dX9_bears_128 rfl (fun h128 => absurd h128 (by omega)) (fun h128 => ?_)
      refine zv_aload_n C dX9_bears_131 rfl rfl ?_
      refine zv_iload C dX9_bears_132 rfl ?_
      refine zv_iconst C dX9_bears_134 rfl ?_
      refine zv_cVi0_2 C dX9_bears_135 k_X9_lost l_X9_189 hL.1 rfl ⟨Nat.le_of_ble_eq_true rfl, Nat.le_of_ble_eq_true rfl⟩ ⟨rfl, rfl⟩ ⟨Nat.le_of_ble_eq_true rfl, Nat.le_of_ble_eq_true rfl⟩ rfl rfl ?_
      refine s_X9_lost hL (by omega) (by omega) (by omega) (by omega) ?_
      rw [zrow_eq]
      refine zv_iload_n C dX9_bears_138 rfl ?_
      refine zv_icmp_ne C 190 dX9_bears_139 rfl (fun h139 => ?_) (fun h139 => ?_)
      · refine zv_iinc_5 C dX9_bears_190 rfl rfl ⟨by omega, by omega⟩ ?_
        refine zv_goto C 120 dX9_bears_193 rfl ?_
        first
        | exact ih2 (k + 1) best (by omega) (by omega) (zNb_skip hb2 (Or.inl (el0 (by omega))))
        | exact ih2 (k + 1) best (by omega) (by omega) (zNb_skip hb2 (Or.inr (show N2 (395 + 4 * k + 3) ≤ 0 by omega)))
        | exact ih2 (k + 1) best (by omega) (by omega) (zNb_keep hb2 (by omega) (show N2 (395 + 4 * best + 2) ≤ N2 (395 + 4 * k + 2) by omega))
        | exact ih2 (k + 1) k (by omega) (by omega) (zNb_new hb2 hk0 (el1 ⟨by omega, by omega⟩) (show 0 < N2 (395 + 4 * k + 3) by omega) (Or.inl (by omega)))
        | exact ih2 (k + 1) k (by omega) (by omega) (zNb_new hb2 hk0 (el1 ⟨by omega, by omega⟩) (show 0 < N2 (395 + 4 * k + 3) by omega) (Or.inr (show N2 (395 + 4 * k + 2) < N2 (395 + 4 * best + 2) by omega)))
      · refine zv_aload_n C dX9_bears_142 rfl rfl ?_
        refine zv_iload C dX9_bears_143 rfl ?_
        refine zv_iconst C dX9_bears_145 rfl ?_
        refine zv_cVi0_2 C dX9_bears_146 k_X9_lost l_X9_189 hL.1 rfl ⟨Nat.le_of_ble_eq_true rfl, Nat.le_of_ble_eq_true rfl⟩ ⟨rfl, rfl⟩ ⟨Nat.le_of_ble_eq_true rfl, Nat.le_of_ble_eq_true rfl⟩ rfl rfl ?_
        refine s_X9_lost hL (by omega) (by omega) (by omega) (by omega) ?_
        rw [zrow_eq]
        refine zv_if_le C 190 dX9_bears_149 rfl (fun h149 => ?_) (fun h149 => ?_)
        · refine zv_iinc_5 C dX9_bears_190 rfl rfl ⟨by omega, by omega⟩ ?_
          refine zv_goto C 120 dX9_bears_193 rfl ?_
          first
          | exact ih2 (k + 1) best (by omega) (by omega) (zNb_skip hb2 (Or.inl (el0 (by omega))))
          | exact ih2 (k + 1) best (by omega) (by omega) (zNb_skip hb2 (Or.inr (show N2 (395 + 4 * k + 3) ≤ 0 by omega)))
          | exact ih2 (k + 1) best (by omega) (by omega) (zNb_keep hb2 (by omega) (show N2 (395 + 4 * best + 2) ≤ N2 (395 + 4 * k + 2) by omega))
          | exact ih2 (k + 1) k (by omega) (by omega) (zNb_new hb2 hk0 (el1 ⟨by omega, by omega⟩) (show 0 < N2 (395 + 4 * k + 3) by omega) (Or.inl (by omega)))
          | exact ih2 (k + 1) k (by omega) (by omega) (zNb_new hb2 hk0 (el1 ⟨by omega, by omega⟩) (show 0 < N2 (395 + 4 * k + 3) by omega) (Or.inr (show N2 (395 + 4 * k + 2) < N2 (395 + 4 * best + 2) by omega)))
        · refine zv_aload_n C dX9_bears_152 rfl rfl ?_
          refine zv_iload C dX9_bears_153 rfl ?_
          refine zv_iconst C dX9_bears_155 rfl ?_
          refine zv_cVi0_2 C dX9_bears_156 k_X9_lost l_X9_189 hL.1 rfl ⟨Nat.le_of_ble_eq_true rfl, Nat.le_of_ble_eq_true rfl⟩ ⟨rfl, rfl⟩ ⟨Nat.le_of_ble_eq_true rfl, Nat.le_of_ble_eq_true rfl⟩ rfl rfl ?_
          refine s_X9_lost hL (by omega) (by omega) (by omega) (by omega) ?_
          rw [zrow_eq]
          refine zv_iload_n C dX9_bears_159 rfl ?_
          refine zv_icmp_lt C 190 dX9_bears_160 rfl (fun h160 => ?_) (fun h160 => ?_)
          · refine zv_iinc_5 C dX9_bears_190 rfl rfl ⟨by omega, by omega⟩ ?_
            refine zv_goto C 120 dX9_bears_193 rfl ?_
            first
            | exact ih2 (k + 1) best (by omega) (by omega) (zNb_skip hb2 (Or.inl (el0 (by omega))))
            | exact ih2 (k + 1) best (by omega) (by omega) (zNb_skip hb2 (Or.inr (show N2 (395 + 4 * k + 3) ≤ 0 by omega)))
            | exact ih2 (k + 1) best (by omega) (by omega) (zNb_keep hb2 (by omega) (show N2 (395 + 4 * best + 2) ≤ N2 (395 + 4 * k + 2) by omega))
            | exact ih2 (k + 1) k (by omega) (by omega) (zNb_new hb2 hk0 (el1 ⟨by omega, by omega⟩) (show 0 < N2 (395 + 4 * k + 3) by omega) (Or.inl (by omega)))
            | exact ih2 (k + 1) k (by omega) (by omega) (zNb_new hb2 hk0 (el1 ⟨by omega, by omega⟩) (show 0 < N2 (395 + 4 * k + 3) by omega) (Or.inr (show N2 (395 + 4 * k + 2) < N2 (395 + 4 * best + 2) by omega)))
          · refine zv_iload C dX9_bears_163 rfl ?_
            refine zv_iconst C dX9_bears_165 rfl ?_
            refine zv_icmp_eq C 186 dX9_bears_166 rfl (fun h166 => ?_) (fun h166 => ?_)
            · refine zv_iload C dX9_bears_186 rfl ?_
              refine zv_istore_4 C dX9_bears_188 rfl rfl ?_
              refine zv_iinc_5 C dX9_bears_190 rfl rfl ⟨by omega, by omega⟩ ?_
              refine zv_goto C 120 dX9_bears_193 rfl ?_
              first
              | exact ih2 (k + 1) best (by omega) (by omega) (zNb_skip hb2 (Or.inl (el0 (by omega))))
              | exact ih2 (k + 1) best (by omega) (by omega) (zNb_skip hb2 (Or.inr (show N2 (395 + 4 * k + 3) ≤ 0 by omega)))
              | exact ih2 (k + 1) best (by omega) (by omega) (zNb_keep hb2 (by omega) (show N2 (395 + 4 * best + 2) ≤ N2 (395 + 4 * k + 2) by omega))
              | exact ih2 (k + 1) k (by omega) (by omega) (zNb_new hb2 hk0 (el1 ⟨by omega, by omega⟩) (show 0 < N2 (395 + 4 * k + 3) by omega) (Or.inl (by omega)))
              | exact ih2 (k + 1) k (by omega) (by omega) (zNb_new hb2 hk0 (el1 ⟨by omega, by omega⟩) (show 0 < N2 (395 + 4 * k + 3) by omega) (Or.inr (show N2 (395 + 4 * k + 2) < N2 (395 + 4 * best + 2) by omega)))
            · refine zv_aload_n C dX9_bears_169 rfl rfl ?_
              refine zv_iload C dX9_bears_170 rfl ?_
              refine zv_iconst C dX9_bears_172 rfl ?_
              refine zv_cVi0_2 C dX9_bears_173 k_X9_lost l_X9_189 hL.1 rfl ⟨Nat.le_of_ble_eq_true rfl, Nat.le_of_ble_eq_true rfl⟩ ⟨rfl, rfl⟩ ⟨Nat.le_of_ble_eq_true rfl, Nat.le_of_ble_eq_true rfl⟩ rfl rfl ?_
              have bi := zNb_in hb2 (by omega)
              refine s_X9_lost hL (by omega) (by omega) (by omega) (by omega) ?_
              rw [zrow_eq]
              refine zv_aload_n C dX9_bears_176 rfl rfl ?_
              refine zv_iload C dX9_bears_177 rfl ?_
              refine zv_iconst C dX9_bears_179 rfl ?_
              refine zv_cVi0_2 C dX9_bears_180 k_X9_lost l_X9_189 hL.1 rfl ⟨Nat.le_of_ble_eq_true rfl, Nat.le_of_ble_eq_true rfl⟩ ⟨rfl, rfl⟩ ⟨Nat.le_of_ble_eq_true rfl, Nat.le_of_ble_eq_true rfl⟩ rfl rfl ?_
              refine s_X9_lost hL (by omega) (by omega) (by omega) (by omega) ?_
              rw [zrow_eq]
              refine zv_icmp_ge C 190 dX9_bears_183 rfl (fun h183 => ?_) (fun h183 => ?_)
              · refine zv_iinc_5 C dX9_bears_190 rfl rfl ⟨by omega, by omega⟩ ?_
                refine zv_goto C 120 dX9_bears_193 rfl ?_
                first
                | exact ih2 (k + 1) best (by omega) (by omega) (zNb_skip hb2 (Or.inl (el0 (by omega))))
                | exact ih2 (k + 1) best (by omega) (by omega) (zNb_skip hb2 (Or.inr (show N2 (395 + 4 * k + 3) ≤ 0 by omega)))
                | exact ih2 (k + 1) best (by omega) (by omega) (zNb_keep hb2 (by omega) (show N2 (395 + 4 * best + 2) ≤ N2 (395 + 4 * k + 2) by omega))
                | exact ih2 (k + 1) k (by omega) (by omega) (zNb_new hb2 hk0 (el1 ⟨by omega, by omega⟩) (show 0 < N2 (395 + 4 * k + 3) by omega) (Or.inl (by omega)))
                | exact ih2 (k + 1) k (by omega) (by omega) (zNb_new hb2 hk0 (el1 ⟨by omega, by omega⟩) (show 0 < N2 (395 + 4 * k + 3) by omega) (Or.inr (show N2 (395 + 4 * k + 2) < N2 (395 + 4 * best + 2) by omega)))
              · refine zv_iload C dX9_bears_186 rfl ?_
                refine zv_istore_4 C dX9_bears_188 rfl rfl ?_
                refine zv_iinc_5 C dX9_bears_190 rfl rfl ⟨by omega, by omega⟩ ?_
                refine zv_goto C 120 dX9_bears_193 rfl ?_
                first
                | exact ih2 (k + 1) best (by omega) (by omega) (zNb_skip hb2 (Or.inl (el0 (by omega))))
                | exact ih2 (k + 1) best (by omega) (by omega) (zNb_skip hb2 (Or.inr (show N2 (395 + 4 * k + 3) ≤ 0 by omega)))
                | exact ih2 (k + 1) best (by omega) (by omega) (zNb_keep hb2 (by omega) (show N2 (395 + 4 * best + 2) ≤ N2 (395 + 4 * k + 2) by omega))
                | exact ih2 (k + 1) k (by omega) (by omega) (zNb_new hb2 hk0 (el1 ⟨by omega, by omega⟩) (show 0 < N2 (395 + 4 * k + 3) by omega) (Or.inl (by omega)))
                | exact ih2 (k + 1) k (by omega) (by omega) (zNb_new hb2 hk0 (el1 ⟨by omega, by omega⟩) (show 0 < N2 (395 + 4 * k + 3) by omega) (Or.inr (show N2 (395 + 4 * k + 2) < N2 (395 + 4 * best + 2) by omega)))

