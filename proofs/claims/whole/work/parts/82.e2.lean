set_option maxRecDepth 20000 in
theorem s_X6_takeRun {T : zTt} {FR : zFR} {AR : zAR} {FI : zFI} {AI : zAI} {Post : zPost} {B D : Nat} {b : Int → Int} {n : Int} {q : Int} (hd : dLay T FR B D) (hrt : FR 3 0 = some 1) (hn : FI 1 1 = n) (hn0 : 0 ≤ n) (hn2 : n ≤ 640) (hb : ∀ j : Int, 0 ≤ j → j < n → AI 2 j % 256 = b j) (h3 : FI 3 3 = q) (hq0 : 0 ≤ q) (hq1 : q ≤ n) (hp : ∀ F1 : zFI, rFr FI F1 → F1 3 3 = q + (tE b n q - q).toNat → F1 3 4 = rKd b q (tE b n q - q).toNat → (zdg b q (tE b n q - q).toNat = (tE b n q - q).toNat → (tE b n q - q).toNat ≤ 5 → F1 3 5 = zvl b q (tE b n q - q).toNat) → F1 3 6 = FI 3 6 → Post (zI 0) T FR AR F1 AI) : zMet M_X6_takeRun [zR 3] T FR AR FI AI Post := by
  refine zMet.of [some (zR 3), none, none] rfl rfl rfl (fun G C => ?_)
  have hz := tE_b (b := b) (n := n) (n - q).toNat q
  have eE : tE b n q = zrn b n (n - q).toNat q := rfl
  generalize hR : (tE b n q - q).toNat = R at *
  have eR : tE b n q = q + R := by omega
  suffices lp : ∀ (d k : Nat) (F : zFI), (n - (q + k)).toNat ≤ d → rFr FI F → F 1 1 = n → F 3 6 = FI 3 6 → F 3 3 = q + k → q + k ≤ n → tE b n (q + k) = q + R → rVb (zdg b q k) (F 3 5) → (zdg b q k = k → k ≤ 5 → F 3 5 = zvl b q k) → zV G 9 [some (zR 3), some (zI (k - zdg b q k)), some (zI (zdg b q k))] [] T FR AR F AI 0 0 from by
    refine zv_iconst C dX6_takeRun_0 rfl ?_
    refine zv_istore_1 C dX6_takeRun_1 rfl rfl ?_
    refine zv_iconst C dX6_takeRun_2 rfl ?_
    refine zv_istore_2 C dX6_takeRun_3 rfl rfl ?_
    refine zv_aload_n C dX6_takeRun_4 rfl rfl ?_
    refine zv_iconst C dX6_takeRun_5 rfl ?_
    refine zv_putI C dX6_takeRun_6 f_X6_128 hd.2.2.2.1 rfl ?_
    have q9 := lp (n - q).toNat 0 (zsF FI 3 5 0) (by omega) (rFr.rfl.set (by decide)) (by rw [zsF_ne (by decide)]; exact hn) (zsF_ne (by decide)) (by rw [zsF_ne (by decide)]; omega) (by omega) (by rw [show q + ((0 : Nat) : Int) = q by omega]; exact eR) (Or.inl ⟨rfl, zsF_eq⟩) (fun _ _ => zsF_eq)
    exact q9
  have ex : ∀ (k : Nat) (F : zFI), rFr FI F → F 3 6 = FI 3 6 → F 3 3 = q + k → R = k → (zdg b q k = k → k ≤ 5 → F 3 5 = zvl b q k) → zV G 114 [some (zR 3), some (zI (k - zdg b q k)), some (zI (zdg b q k))] [] T FR AR F AI 0 0 := fun k F hF h6 h3 hk hv => by
    subst hk
    have db := zdg_b (b := b) (q := q) R
    unfold rKd at hp
    refine zv_iload_n C dX6_takeRun_114 rfl ?_
    refine zv_if_le C 130 dX6_takeRun_115 rfl (fun h115 => ?_) (fun h115 => ?_)
    · refine zv_iload_n C dX6_takeRun_130 rfl ?_
      refine zv_if_ne C 151 dX6_takeRun_131 rfl (fun h131 => ?_) (fun h131 => ?_)
      · refine zv_aload_n C dX6_takeRun_151 rfl rfl ?_
        refine zv_iconst C dX6_takeRun_152 rfl ?_
        refine zv_putI C dX6_takeRun_153 f_X6_45 hd.2.2.2.1 rfl ?_
        refine zv_return C dX6_takeRun_156 rfl rfl rfl ?_
        refine hp _ (hF.set (by decide)) ?_ ?_ ?_ ?_
        · rw [zsF_ne (by decide)]; exact h3
        · rw [zsF_eq]
          first
          | (exfalso; omega)
          | (rw [if_pos ⟨by omega, by omega⟩])
          | (rw [if_neg (by omega), if_pos ⟨by omega, by omega, by omega⟩])
          | (rw [if_neg (by omega), if_neg (by omega)])
        · intro a1 a2
          rw [zsF_ne (by decide)]; exact hv a1 a2
        · rw [zsF_ne (by decide)]; exact h6
      · refine zv_iload_n C dX6_takeRun_134 rfl ?_
        refine zv_if_le C 151 dX6_takeRun_135 rfl (fun h135 => ?_) (fun h135 => ?_)
        · refine zv_aload_n C dX6_takeRun_151 rfl rfl ?_
          refine zv_iconst C dX6_takeRun_152 rfl ?_
          refine zv_putI C dX6_takeRun_153 f_X6_45 hd.2.2.2.1 rfl ?_
          refine zv_return C dX6_takeRun_156 rfl rfl rfl ?_
          refine hp _ (hF.set (by decide)) ?_ ?_ ?_ ?_
          · rw [zsF_ne (by decide)]; exact h3
          · rw [zsF_eq]
            first
            | (exfalso; omega)
            | (rw [if_pos ⟨by omega, by omega⟩])
            | (rw [if_neg (by omega), if_pos ⟨by omega, by omega, by omega⟩])
            | (rw [if_neg (by omega), if_neg (by omega)])
          · intro a1 a2
            rw [zsF_ne (by decide)]; exact hv a1 a2
          · rw [zsF_ne (by decide)]; exact h6
        · refine zv_iload_n C dX6_takeRun_138 rfl ?_
          refine zv_iconst C dX6_takeRun_139 rfl ?_
          refine zv_icmp_gt C 151 dX6_takeRun_140 rfl (fun h140 => ?_) (fun h140 => ?_)
          · refine zv_aload_n C dX6_takeRun_151 rfl rfl ?_
            refine zv_iconst C dX6_takeRun_152 rfl ?_
            refine zv_putI C dX6_takeRun_153 f_X6_45 hd.2.2.2.1 rfl ?_
            refine zv_return C dX6_takeRun_156 rfl rfl rfl ?_
            refine hp _ (hF.set (by decide)) ?_ ?_ ?_ ?_
            · rw [zsF_ne (by decide)]; exact h3
            · rw [zsF_eq]
              first
              | (exfalso; omega)
              | (rw [if_pos ⟨by omega, by omega⟩])
              | (rw [if_neg (by omega), if_pos ⟨by omega, by omega, by omega⟩])
              | (rw [if_neg (by omega), if_neg (by omega)])
            · intro a1 a2
              rw [zsF_ne (by decide)]; exact hv a1 a2
            · rw [zsF_ne (by decide)]; exact h6
          · refine zv_aload_n C dX6_takeRun_143 rfl rfl ?_
            refine zv_iconst C dX6_takeRun_144 rfl ?_
            refine zv_putI C dX6_takeRun_145 f_X6_45 hd.2.2.2.1 rfl ?_
            refine zv_goto C 156 dX6_takeRun_148 rfl ?_
            refine zv_return C dX6_takeRun_156 rfl rfl rfl ?_
            refine hp _ (hF.set (by decide)) ?_ ?_ ?_ ?_
            · rw [zsF_ne (by decide)]; exact h3
            · rw [zsF_eq]
              first
              | (exfalso; omega)
              | (rw [if_pos ⟨by omega, by omega⟩])
              | (rw [if_neg (by omega), if_pos ⟨by omega, by omega, by omega⟩])
              | (rw [if_neg (by omega), if_neg (by omega)])
            · intro a1 a2
              rw [zsF_ne (by decide)]; exact hv a1 a2
            · rw [zsF_ne (by decide)]; exact h6
    · refine zv_iload_n C dX6_takeRun_118 rfl ?_
      refine zv_if_ne C 130 dX6_takeRun_119 rfl (fun h119 => ?_) (fun h119 => ?_)
      · refine zv_iload_n C dX6_takeRun_130 rfl ?_
        refine zv_if_ne C 151 dX6_takeRun_131 rfl (fun h131 => ?_) (fun h131 => ?_)
        · refine zv_aload_n C dX6_takeRun_151 rfl rfl ?_
          refine zv_iconst C dX6_takeRun_152 rfl ?_
          refine zv_putI C dX6_takeRun_153 f_X6_45 hd.2.2.2.1 rfl ?_
          refine zv_return C dX6_takeRun_156 rfl rfl rfl ?_
          refine hp _ (hF.set (by decide)) ?_ ?_ ?_ ?_
          · rw [zsF_ne (by decide)]; exact h3
          · rw [zsF_eq]
            first
            | (exfalso; omega)
            | (rw [if_pos ⟨by omega, by omega⟩])
            | (rw [if_neg (by omega), if_pos ⟨by omega, by omega, by omega⟩])
            | (rw [if_neg (by omega), if_neg (by omega)])
          · intro a1 a2
            rw [zsF_ne (by decide)]; exact hv a1 a2
          · rw [zsF_ne (by decide)]; exact h6
        · refine zv_iload_n C dX6_takeRun_134 rfl ?_
          refine zv_if_le C 151 dX6_takeRun_135 rfl (fun h135 => ?_) (fun h135 => ?_)
          · refine zv_aload_n C dX6_takeRun_151 rfl rfl ?_
            refine zv_iconst C dX6_takeRun_152 rfl ?_
            refine zv_putI C dX6_takeRun_153 f_X6_45 hd.2.2.2.1 rfl ?_
            refine zv_return C dX6_takeRun_156 rfl rfl rfl ?_
            refine hp _ (hF.set (by decide)) ?_ ?_ ?_ ?_
            · rw [zsF_ne (by decide)]; exact h3
            · rw [zsF_eq]
              first
              | (exfalso; omega)
              | (rw [if_pos ⟨by omega, by omega⟩])
              | (rw [if_neg (by omega), if_pos ⟨by omega, by omega, by omega⟩])
              | (rw [if_neg (by omega), if_neg (by omega)])
            · intro a1 a2
              rw [zsF_ne (by decide)]; exact hv a1 a2
            · rw [zsF_ne (by decide)]; exact h6
          · refine zv_iload_n C dX6_takeRun_138 rfl ?_
            refine zv_iconst C dX6_takeRun_139 rfl ?_
            refine zv_icmp_gt C 151 dX6_takeRun_140 rfl (fun h140 => ?_) (fun h140 => ?_)
            · refine zv_aload_n C dX6_takeRun_151 rfl rfl ?_
              refine zv_iconst C dX6_takeRun_152 rfl ?_
              refine zv_putI C dX6_takeRun_153 f_X6_45 hd.2.2.2.1 rfl ?_
              refine zv_return C dX6_takeRun_156 rfl rfl rfl ?_
              refine hp _ (hF.set (by decide)) ?_ ?_ ?_ ?_
              · rw [zsF_ne (by decide)]; exact h3
              · rw [zsF_eq]
                first
                | (exfalso; omega)
                | (rw [if_pos ⟨by omega, by omega⟩])
                | (rw [if_neg (by omega), if_pos ⟨by omega, by omega, by omega⟩])
                | (rw [if_neg (by omega), if_neg (by omega)])
              · intro a1 a2
                rw [zsF_ne (by decide)]; exact hv a1 a2
              · rw [zsF_ne (by decide)]; exact h6
            · refine zv_aload_n C dX6_takeRun_143 rfl rfl ?_
              refine zv_iconst C dX6_takeRun_144 rfl ?_
              refine zv_putI C dX6_takeRun_145 f_X6_45 hd.2.2.2.1 rfl ?_
              refine zv_goto C 156 dX6_takeRun_148 rfl ?_
              refine zv_return C dX6_takeRun_156 rfl rfl rfl ?_
              refine hp _ (hF.set (by decide)) ?_ ?_ ?_ ?_
              · rw [zsF_ne (by decide)]; exact h3
              · rw [zsF_eq]
                first
                | (exfalso; omega)
                | (rw [if_pos ⟨by omega, by omega⟩])
                | (rw [if_neg (by omega), if_pos ⟨by omega, by omega, by omega⟩])
                | (rw [if_neg (by omega), if_neg (by omega)])
              · intro a1 a2
                rw [zsF_ne (by decide)]; exact hv a1 a2
              · rw [zsF_ne (by decide)]; exact h6
      · refine zv_aload_n C dX6_takeRun_122 rfl rfl ?_
        refine zv_iconst C dX6_takeRun_123 rfl ?_
        refine zv_putI C dX6_takeRun_124 f_X6_45 hd.2.2.2.1 rfl ?_
        refine zv_goto C 156 dX6_takeRun_127 rfl ?_
        refine zv_return C dX6_takeRun_156 rfl rfl rfl ?_
        refine hp _ (hF.set (by decide)) ?_ ?_ ?_ ?_
        · rw [zsF_ne (by decide)]; exact h3
        · rw [zsF_eq]
          first
          | (exfalso; omega)
          | (rw [if_pos ⟨by omega, by omega⟩])
          | (rw [if_neg (by omega), if_pos ⟨by omega, by omega, by omega⟩])
          | (rw [if_neg (by omega), if_neg (by omega)])
        · intro a1 a2
          rw [zsF_ne (by decide)]; exact hv a1 a2
        · rw [zsF_ne (by decide)]; exact h6
  intro d
  induction d with
  | zero =>
    intro k F hd1 hF e1 h6 h3 hkn hE hvb hv
    have eK : R = k := by rw [tE_stop (by omega)] at hE; omega
    refine zv_aload_n C dX6_takeRun_9 rfl rfl ?_
    refine zv_getI C dX6_takeRun_10 f_X6_32 hd.2.2.2.1 rfl ?_
    refine zv_aload_n C dX6_takeRun_13 rfl rfl ?_
    refine zv_getR C dX6_takeRun_14 f_X6_12 hd.2.2.2.1 rfl hrt ?_
    refine zv_getI C dX6_takeRun_17 f_X6_160 hd.2.1 rfl ?_
    rw [h3, e1]
    refine zv_icmp_ge C 114 dX6_takeRun_20 rfl (fun h20 => ?_) (fun h20 => absurd h20 (by omega))
    exact ex k F hF h6 h3 eK hv
  | succ d ih =>
    intro k F hd1 hF e1 h6 h3 hkn hE hvb hv
    have db := zdg_b (b := b) (q := q) k
    by_cases hr : q + k < n
    · by_cases al : (48 ≤ b (q + k) ∧ b (q + k) ≤ 57) ∨ (97 ≤ b (q + k) ∧ b (q + k) ≤ 122)
      · have hE2 : tE b n (q + ((k + 1 : Nat) : Int)) = q + R := by
          rw [← hE, tE_step hr (by omega)]
          congr 1
          omega
        by_cases dgt : 48 ≤ b (q + k) ∧ b (q + k) ≤ 57
        · have ed := zdg_d (b := b) (q := q) (k := k) dgt
          unfold rVb at hvb
          refine zv_aload_n C dX6_takeRun_9 rfl rfl ?_
          refine zv_getI C dX6_takeRun_10 f_X6_32 hd.2.2.2.1 rfl ?_
          refine zv_aload_n C dX6_takeRun_13 rfl rfl ?_
          refine zv_getR C dX6_takeRun_14 f_X6_12 hd.2.2.2.1 rfl hrt ?_
          refine zv_getI C dX6_takeRun_17 f_X6_160 hd.2.1 rfl ?_
          rw [h3, e1]
          refine zv_icmp_ge C 114 dX6_takeRun_20 rfl (fun h20 => absurd h20 (by omega)) (fun h20 => ?_)
          refine zv_aload_n C dX6_takeRun_23 rfl rfl ?_
          refine zv_getR C dX6_takeRun_24 f_X6_12 hd.2.2.2.1 rfl hrt ?_
          refine zv_aload_n C dX6_takeRun_27 rfl rfl ?_
          refine zv_getI C dX6_takeRun_28 f_X6_32 hd.2.2.2.1 rfl ?_
          refine zv_cVi0_1 C dX6_takeRun_31 k_X7_at l_X6_100 hd.2.1 rfl ⟨Nat.le_of_ble_eq_true rfl, Nat.le_of_ble_eq_true rfl⟩ ⟨rfl, rfl⟩ ⟨Nat.le_of_ble_eq_true rfl, Nat.le_of_ble_eq_true rfl⟩ rfl rfl ?_
          refine s_X7_at hd (by omega) ?_
          rw [if_pos ⟨by omega, by omega⟩, h3, hb _ (by omega) (by omega)]
          refine zv_cSi0_1 C dX6_takeRun_34 k_X6_isOfRun l_X6_169 ⟨Nat.le_of_ble_eq_true rfl, Nat.le_of_ble_eq_true rfl⟩ ⟨rfl, rfl⟩ ⟨Nat.le_of_ble_eq_true rfl, Nat.le_of_ble_eq_true rfl⟩ rfl rfl ?_
          refine s_X6_isOfRun (fun b34 => ?_) (fun b34 => absurd b34 (by omega))
          refine zv_if_eq C 114 dX6_takeRun_37 rfl (fun h => absurd h (by omega)) (fun _ => ?_)
          refine zv_aload_n C dX6_takeRun_40 rfl rfl ?_
          refine zv_getR C dX6_takeRun_41 f_X6_12 hd.2.2.2.1 rfl hrt ?_
          refine zv_aload_n C dX6_takeRun_44 rfl rfl ?_
          refine zv_getI C dX6_takeRun_45 f_X6_32 hd.2.2.2.1 rfl ?_
          refine zv_cVi0_1 C dX6_takeRun_48 k_X7_at l_X6_100 hd.2.1 rfl ⟨Nat.le_of_ble_eq_true rfl, Nat.le_of_ble_eq_true rfl⟩ ⟨rfl, rfl⟩ ⟨Nat.le_of_ble_eq_true rfl, Nat.le_of_ble_eq_true rfl⟩ rfl rfl ?_
          refine s_X7_at hd (by omega) ?_
          rw [if_pos ⟨by omega, by omega⟩, h3, hb _ (by omega) (by omega)]
          refine zv_cSi0_1 C dX6_takeRun_51 k_X6_isDigit l_X6_172 ⟨Nat.le_of_ble_eq_true rfl, Nat.le_of_ble_eq_true rfl⟩ ⟨rfl, rfl⟩ ⟨Nat.le_of_ble_eq_true rfl, Nat.le_of_ble_eq_true rfl⟩ rfl rfl ?_
          refine s_X6_isDigit (fun b51 => ?_) (fun b51 => absurd b51 (by omega))
          refine zv_if_eq C 98 dX6_takeRun_54 rfl (fun h => absurd h (by omega)) (fun _ => ?_)
          refine zv_iinc_2 C dX6_takeRun_57 rfl rfl ⟨by omega, by omega⟩ ?_
          refine zv_aload_n C dX6_takeRun_60 rfl rfl ?_
          refine zv_iload_n C dX6_takeRun_61 rfl ?_
          refine zv_iconst C dX6_takeRun_62 rfl ?_
          refine zv_icmp_le C 70 dX6_takeRun_63 rfl (fun h63 => ?_) (fun h63 => ?_)
          · refine zv_aload_n C dX6_takeRun_70 rfl rfl ?_
            refine zv_getI C dX6_takeRun_71 f_X6_128 hd.2.2.2.1 rfl ?_
            refine zv_bipush C dX6_takeRun_74 rfl ?_
            refine zv_imul C dX6_takeRun_76 ⟨by omega, by omega⟩ ?_
            refine zv_aload_n C dX6_takeRun_77 rfl rfl ?_
            refine zv_getR C dX6_takeRun_78 f_X6_12 hd.2.2.2.1 rfl hrt ?_
            refine zv_aload_n C dX6_takeRun_81 rfl rfl ?_
            refine zv_getI C dX6_takeRun_82 f_X6_32 hd.2.2.2.1 rfl ?_
            refine zv_cVi0_1 C dX6_takeRun_85 k_X7_at l_X6_100 hd.2.1 rfl ⟨Nat.le_of_ble_eq_true rfl, Nat.le_of_ble_eq_true rfl⟩ ⟨rfl, rfl⟩ ⟨Nat.le_of_ble_eq_true rfl, Nat.le_of_ble_eq_true rfl⟩ rfl rfl ?_
            refine s_X7_at hd (by omega) ?_
            rw [if_pos ⟨by omega, by omega⟩, h3, hb _ (by omega) (by omega)]
            refine zv_iadd C dX6_takeRun_88 ⟨by omega, by omega⟩ ?_
            refine zv_bipush C dX6_takeRun_89 rfl ?_
            refine zv_isub C dX6_takeRun_91 ⟨by omega, by omega⟩ ?_
            refine zv_putI C dX6_takeRun_92 f_X6_128 hd.2.2.2.1 rfl ?_
            refine zv_goto C 101 dX6_takeRun_95 rfl ?_
            refine zv_aload_n C dX6_takeRun_101 rfl rfl ?_
            refine zv_dup C dX6_takeRun_102 rfl ?_
            refine zv_getI C dX6_takeRun_103 f_X6_32 hd.2.2.2.1 rfl ?_
            try simp (disch := omega) only [zsF_eq, zsF_ne]
            refine zv_iconst C dX6_takeRun_106 rfl ?_
            refine zv_iadd C dX6_takeRun_107 ⟨by omega, by omega⟩ ?_
            refine zv_putI C dX6_takeRun_108 f_X6_32 hd.2.2.2.1 rfl ?_
            refine zv_goto C 9 dX6_takeRun_111 rfl ?_
            rw [← ed, show (k : Int) - zdg b q k = ((k + 1 : Nat) : Int) - zdg b q (k + 1) by rw [ed]; omega]
            refine ih (k + 1) _ (by omega) ((hF.set (j := 5) (by decide)).set (j := 3) (by decide)) (by rw [zsF_ne (by decide), zsF_ne (by decide)]; exact e1) (by rw [zsF_ne (by decide), zsF_ne (by decide)]; exact h6) (by rw [zsF_eq]; omega) (by omega) hE2 (by
              rw [zsF_ne (by decide), zsF_eq, ed]
              unfold rVb
              omega) (fun a1 a2 => by
              rw [zsF_ne (by decide), zsF_eq]
              first
              | (exfalso; omega)
              | (rw [hv (by omega) (by omega)]
                 show _ = 10 * zvl b q k + b (q + k) - 48
                 omega))
          · refine zv_iconst C dX6_takeRun_66 rfl ?_
            refine zv_goto C 92 dX6_takeRun_67 rfl ?_
            refine zv_putI C dX6_takeRun_92 f_X6_128 hd.2.2.2.1 rfl ?_
            refine zv_goto C 101 dX6_takeRun_95 rfl ?_
            refine zv_aload_n C dX6_takeRun_101 rfl rfl ?_
            refine zv_dup C dX6_takeRun_102 rfl ?_
            refine zv_getI C dX6_takeRun_103 f_X6_32 hd.2.2.2.1 rfl ?_
            try simp (disch := omega) only [zsF_eq, zsF_ne]
            refine zv_iconst C dX6_takeRun_106 rfl ?_
            refine zv_iadd C dX6_takeRun_107 ⟨by omega, by omega⟩ ?_
            refine zv_putI C dX6_takeRun_108 f_X6_32 hd.2.2.2.1 rfl ?_
            refine zv_goto C 9 dX6_takeRun_111 rfl ?_
            rw [← ed, show (k : Int) - zdg b q k = ((k + 1 : Nat) : Int) - zdg b q (k + 1) by rw [ed]; omega]
            refine ih (k + 1) _ (by omega) ((hF.set (j := 5) (by decide)).set (j := 3) (by decide)) (by rw [zsF_ne (by decide), zsF_ne (by decide)]; exact e1) (by rw [zsF_ne (by decide), zsF_ne (by decide)]; exact h6) (by rw [zsF_eq]; omega) (by omega) hE2 (by
              rw [zsF_ne (by decide), zsF_eq, ed]
              unfold rVb
              omega) (fun a1 a2 => by
              rw [zsF_ne (by decide), zsF_eq]
              first
              | (exfalso; omega)
              | (rw [hv (by omega) (by omega)]
                 show _ = 10 * zvl b q k + b (q + k) - 48
                 omega))
        · have ed := zdg_l (b := b) (q := q) (k := k) dgt
          refine zv_aload_n C dX6_takeRun_9 rfl rfl ?_
          refine zv_getI C dX6_takeRun_10 f_X6_32 hd.2.2.2.1 rfl ?_
          refine zv_aload_n C dX6_takeRun_13 rfl rfl ?_
          refine zv_getR C dX6_takeRun_14 f_X6_12 hd.2.2.2.1 rfl hrt ?_
          refine zv_getI C dX6_takeRun_17 f_X6_160 hd.2.1 rfl ?_
          rw [h3, e1]
          refine zv_icmp_ge C 114 dX6_takeRun_20 rfl (fun h20 => absurd h20 (by omega)) (fun h20 => ?_)
          refine zv_aload_n C dX6_takeRun_23 rfl rfl ?_
          refine zv_getR C dX6_takeRun_24 f_X6_12 hd.2.2.2.1 rfl hrt ?_
          refine zv_aload_n C dX6_takeRun_27 rfl rfl ?_
          refine zv_getI C dX6_takeRun_28 f_X6_32 hd.2.2.2.1 rfl ?_
          refine zv_cVi0_1 C dX6_takeRun_31 k_X7_at l_X6_100 hd.2.1 rfl ⟨Nat.le_of_ble_eq_true rfl, Nat.le_of_ble_eq_true rfl⟩ ⟨rfl, rfl⟩ ⟨Nat.le_of_ble_eq_true rfl, Nat.le_of_ble_eq_true rfl⟩ rfl rfl ?_
          refine s_X7_at hd (by omega) ?_
          rw [if_pos ⟨by omega, by omega⟩, h3, hb _ (by omega) (by omega)]
          refine zv_cSi0_1 C dX6_takeRun_34 k_X6_isOfRun l_X6_169 ⟨Nat.le_of_ble_eq_true rfl, Nat.le_of_ble_eq_true rfl⟩ ⟨rfl, rfl⟩ ⟨Nat.le_of_ble_eq_true rfl, Nat.le_of_ble_eq_true rfl⟩ rfl rfl ?_
          refine s_X6_isOfRun (fun b34 => ?_) (fun b34 => absurd b34 (by omega))
          refine zv_if_eq C 114 dX6_takeRun_37 rfl (fun h => absurd h (by omega)) (fun _ => ?_)
          refine zv_aload_n C dX6_takeRun_40 rfl rfl ?_
          refine zv_getR C dX6_takeRun_41 f_X6_12 hd.2.2.2.1 rfl hrt ?_
          refine zv_aload_n C dX6_takeRun_44 rfl rfl ?_
          refine zv_getI C dX6_takeRun_45 f_X6_32 hd.2.2.2.1 rfl ?_
          refine zv_cVi0_1 C dX6_takeRun_48 k_X7_at l_X6_100 hd.2.1 rfl ⟨Nat.le_of_ble_eq_true rfl, Nat.le_of_ble_eq_true rfl⟩ ⟨rfl, rfl⟩ ⟨Nat.le_of_ble_eq_true rfl, Nat.le_of_ble_eq_true rfl⟩ rfl rfl ?_
          refine s_X7_at hd (by omega) ?_
          rw [if_pos ⟨by omega, by omega⟩, h3, hb _ (by omega) (by omega)]
          refine zv_cSi0_1 C dX6_takeRun_51 k_X6_isDigit l_X6_172 ⟨Nat.le_of_ble_eq_true rfl, Nat.le_of_ble_eq_true rfl⟩ ⟨rfl, rfl⟩ ⟨Nat.le_of_ble_eq_true rfl, Nat.le_of_ble_eq_true rfl⟩ rfl rfl ?_
          refine s_X6_isDigit (fun b51 => absurd b51 (by omega)) (fun b51 => ?_)
          refine zv_if_eq C 98 dX6_takeRun_54 rfl (fun _ => ?_) (fun h => absurd h (by omega))
          refine zv_iinc_1 C dX6_takeRun_98 rfl rfl ⟨by omega, by omega⟩ ?_
          refine zv_aload_n C dX6_takeRun_101 rfl rfl ?_
          refine zv_dup C dX6_takeRun_102 rfl ?_
          refine zv_getI C dX6_takeRun_103 f_X6_32 hd.2.2.2.1 rfl ?_
          refine zv_iconst C dX6_takeRun_106 rfl ?_
          refine zv_iadd C dX6_takeRun_107 ⟨by omega, by omega⟩ ?_
          refine zv_putI C dX6_takeRun_108 f_X6_32 hd.2.2.2.1 rfl ?_
          refine zv_goto C 9 dX6_takeRun_111 rfl ?_
          rw [show (k : Int) - zdg b q k + 1 = ((k + 1 : Nat) : Int) - zdg b q (k + 1) by rw [ed]; omega, ← ed]
          refine ih (k + 1) _ (by omega) (hF.set (j := 3) (by decide)) (by rw [zsF_ne (by decide)]; exact e1) (by rw [zsF_ne (by decide)]; exact h6) (by rw [zsF_eq]; omega) (by omega) hE2 (by rw [zsF_ne (by decide), ed]; exact hvb) (fun a1 a2 => by omega)
      · have eK : R = k := by rw [tE_stop (by omega)] at hE; omega
        refine zv_aload_n C dX6_takeRun_9 rfl rfl ?_
        refine zv_getI C dX6_takeRun_10 f_X6_32 hd.2.2.2.1 rfl ?_
        refine zv_aload_n C dX6_takeRun_13 rfl rfl ?_
        refine zv_getR C dX6_takeRun_14 f_X6_12 hd.2.2.2.1 rfl hrt ?_
        refine zv_getI C dX6_takeRun_17 f_X6_160 hd.2.1 rfl ?_
        rw [h3, e1]
        refine zv_icmp_ge C 114 dX6_takeRun_20 rfl (fun h20 => absurd h20 (by omega)) (fun h20 => ?_)
        refine zv_aload_n C dX6_takeRun_23 rfl rfl ?_
        refine zv_getR C dX6_takeRun_24 f_X6_12 hd.2.2.2.1 rfl hrt ?_
        refine zv_aload_n C dX6_takeRun_27 rfl rfl ?_
        refine zv_getI C dX6_takeRun_28 f_X6_32 hd.2.2.2.1 rfl ?_
        refine zv_cVi0_1 C dX6_takeRun_31 k_X7_at l_X6_100 hd.2.1 rfl ⟨Nat.le_of_ble_eq_true rfl, Nat.le_of_ble_eq_true rfl⟩ ⟨rfl, rfl⟩ ⟨Nat.le_of_ble_eq_true rfl, Nat.le_of_ble_eq_true rfl⟩ rfl rfl ?_
        refine s_X7_at hd (by omega) ?_
        rw [if_pos ⟨by omega, by omega⟩, h3, hb _ (by omega) (by omega)]
        refine zv_cSi0_1 C dX6_takeRun_34 k_X6_isOfRun l_X6_169 ⟨Nat.le_of_ble_eq_true rfl, Nat.le_of_ble_eq_true rfl⟩ ⟨rfl, rfl⟩ ⟨Nat.le_of_ble_eq_true rfl, Nat.le_of_ble_eq_true rfl⟩ rfl rfl ?_
        refine s_X6_isOfRun (fun b34 => absurd b34 (by omega)) (fun b34 => ?_)
        refine zv_if_eq C 114 dX6_takeRun_37 rfl (fun _ => ?_) (fun h => absurd h (by omega))
        exact ex k F hF h6 h3 eK hv
    · have eK : R = k := by rw [tE_stop (by omega)] at hE; omega
      refine zv_aload_n C dX6_takeRun_9 rfl rfl ?_
      refine zv_getI C dX6_takeRun_10 f_X6_32 hd.2.2.2.1 rfl ?_
      refine zv_aload_n C dX6_takeRun_13 rfl rfl ?_
      refine zv_getR C dX6_takeRun_14 f_X6_12 hd.2.2.2.1 rfl hrt ?_
      refine zv_getI C dX6_takeRun_17 f_X6_160 hd.2.1 rfl ?_
      rw [h3, e1]
      refine zv_icmp_ge C 114 dX6_takeRun_20 rfl (fun h20 => ?_) (fun h20 => absurd h20 (by omega))
      exact ex k F hF h6 h3 eK hv

