set_option maxRecDepth 20000 in
theorem s_X6_advance {T : zTt} {FR : zFR} {AR : zAR} {FI : zFI} {AI : zAI} {Post : zPost} {B D : Nat} {b : Int → Int} {n : Int}  (hd : dLay T FR B D) (hrt : FR 3 0 = some 1) (hn : FI 1 1 = n) (hn0 : 0 ≤ n) (hn2 : n ≤ 640) (hb : ∀ j : Int, 0 ≤ j → j < n → AI 2 j % 256 = b j) (g0 : 0 ≤ FI 3 3) (g1 : FI 3 3 ≤ n) (hp : ∀ F1 : zFI, rFr FI F1 → rAt F1 b n (FI 3 3) → Post (zI 0) T FR AR F1 AI) : zMet M_X6_advance [zR 3] T FR AR FI AI Post := by
  refine zMet.of [some (zR 3)] rfl rfl rfl (fun G C => ?_)
  have hq0 := tF_b (b := b) (n := n) (n - FI 3 3).toNat (FI 3 3)
  have hq1 : FI 3 3 ≤ tF b n (FI 3 3) ∧ tF b n (FI 3 3) ≤ max (FI 3 3) n := hq0
  generalize hq : tF b n (FI 3 3) = q at *
  suffices J52 : ∀ F : zFI, rFr FI F → F 3 6 = q → zV G 52 [some (zR 3)] [] T FR AR F AI 0 0 from by
    suffices lp : ∀ (d : Nat) (F : zFI), (n - F 3 6).toNat ≤ d → rFr FI F → FI 3 3 ≤ F 3 6 → F 3 6 ≤ n → tF b n (F 3 6) = q → zV G 8 [some (zR 3)] [] T FR AR F AI 0 0 from by
      refine zv_aload_n C dX6_advance_0 rfl rfl ?_
      refine zv_aload_n C dX6_advance_1 rfl rfl ?_
      refine zv_getI C dX6_advance_2 f_X6_32 hd.2.2.2.1 rfl ?_
      refine zv_putI C dX6_advance_5 f_X6_93 hd.2.2.2.1 rfl ?_
      refine lp (n - FI 3 3).toNat _ (by rw [zsF_eq]; omega) (rFr.rfl.set (by decide)) (by rw [zsF_eq]; omega) (by rw [zsF_eq]; omega) (by rw [zsF_eq]; exact hq)
    intro d
    induction d with
    | zero =>
      intro F hd1 hF h4 h5 ht
      have e1 : F 1 1 = n := (hF 1 1 (by decide)).trans hn
      rw [tF_stop (by omega)] at ht
      refine zv_aload_n C dX6_advance_8 rfl rfl ?_
      refine zv_getI C dX6_advance_9 f_X6_93 hd.2.2.2.1 rfl ?_
      refine zv_aload_n C dX6_advance_12 rfl rfl ?_
      refine zv_getR C dX6_advance_13 f_X6_12 hd.2.2.2.1 rfl hrt ?_
      refine zv_getI C dX6_advance_16 f_X6_160 hd.2.1 rfl ?_
      rw [e1]
      refine zv_icmp_ge C 52 dX6_advance_19 rfl (fun h19 => ?_) (fun h19 => absurd h19 (by omega))
      exact J52 F hF ht
    | succ d ih =>
      intro F hd1 hF h4 h5 ht
      have e1 : F 1 1 = n := (hF 1 1 (by decide)).trans hn
      refine zv_aload_n C dX6_advance_8 rfl rfl ?_
      refine zv_getI C dX6_advance_9 f_X6_93 hd.2.2.2.1 rfl ?_
      refine zv_aload_n C dX6_advance_12 rfl rfl ?_
      refine zv_getR C dX6_advance_13 f_X6_12 hd.2.2.2.1 rfl hrt ?_
      refine zv_getI C dX6_advance_16 f_X6_160 hd.2.1 rfl ?_
      rw [e1]
      refine zv_icmp_ge C 52 dX6_advance_19 rfl (fun h19 => ?_) (fun h19 => ?_)
      · rw [tF_stop (by omega)] at ht
        exact J52 F hF ht
      · refine zv_aload_n C dX6_advance_22 rfl rfl ?_
        refine zv_getR C dX6_advance_23 f_X6_12 hd.2.2.2.1 rfl hrt ?_
        refine zv_aload_n C dX6_advance_26 rfl rfl ?_
        refine zv_getI C dX6_advance_27 f_X6_93 hd.2.2.2.1 rfl ?_
        refine zv_cVi0_1 C dX6_advance_30 k_X7_at l_X6_100 hd.2.1 rfl ⟨Nat.le_of_ble_eq_true rfl, Nat.le_of_ble_eq_true rfl⟩ ⟨rfl, rfl⟩ ⟨Nat.le_of_ble_eq_true rfl, Nat.le_of_ble_eq_true rfl⟩ rfl rfl ?_
        refine s_X7_at hd (by omega) ?_
        rw [if_pos ⟨by omega, by omega⟩, hb _ (by omega) (by omega)]
        refine zv_cSi0_1 C dX6_advance_33 k_X6_isBlank l_X6_163 ⟨Nat.le_of_ble_eq_true rfl, Nat.le_of_ble_eq_true rfl⟩ ⟨rfl, rfl⟩ ⟨Nat.le_of_ble_eq_true rfl, Nat.le_of_ble_eq_true rfl⟩ rfl rfl ?_
        refine s_X6_isBlank (fun bb => ?_) (fun bb => ?_)
        · refine zv_if_eq C 52 dX6_advance_36 rfl (fun h => absurd h (by omega)) (fun _ => ?_)
          refine zv_aload_n C dX6_advance_39 rfl rfl ?_
          refine zv_dup C dX6_advance_40 rfl ?_
          refine zv_getI C dX6_advance_41 f_X6_93 hd.2.2.2.1 rfl ?_
          refine zv_iconst C dX6_advance_44 rfl ?_
          refine zv_iadd C dX6_advance_45 ⟨by omega, by omega⟩ ?_
          refine zv_putI C dX6_advance_46 f_X6_93 hd.2.2.2.1 rfl ?_
          refine zv_goto C 8 dX6_advance_49 rfl ?_
          rw [tF_step (by omega) bb] at ht
          refine ih _ (by rw [zsF_eq]; omega) (hF.set (by decide)) (by rw [zsF_eq]; omega) (by rw [zsF_eq]; omega) (by rw [zsF_eq]; exact ht)
        · refine zv_if_eq C 52 dX6_advance_36 rfl (fun _ => ?_) (fun h => absurd h (by omega))
          rw [tF_stop (by omega)] at ht
          exact J52 F hF ht
  intro F hF h6
  have e1 : F 1 1 = n := (hF 1 1 (by decide)).trans hn
  refine zv_aload_n C dX6_advance_52 rfl rfl ?_
  refine zv_aload_n C dX6_advance_53 rfl rfl ?_
  refine zv_getI C dX6_advance_54 f_X6_93 hd.2.2.2.1 rfl ?_
  rw [h6]
  refine zv_putI C dX6_advance_57 f_X6_32 hd.2.2.2.1 rfl ?_
  refine zv_aload_n C dX6_advance_60 rfl rfl ?_
  refine zv_getI C dX6_advance_61 f_X6_93 hd.2.2.2.1 rfl ?_
  try simp (disch := omega) only [zsF_eq, zsF_ne]
  refine zv_sipush C dX6_advance_64 rfl ?_
  try rw [zsF_ne (by decide)]
  rw [h6]
  refine zv_icmp_lt C 98 dX6_advance_67 rfl (fun h67 => ?_) (fun h67 => ?_)
  · refine zv_aload_n C dX6_advance_98 rfl rfl ?_
    refine zv_getI C dX6_advance_99 f_X6_93 hd.2.2.2.1 rfl ?_
    try simp (disch := omega) only [zsF_eq, zsF_ne]
    try rw [zsF_ne (by decide)]
    rw [h6]
    refine zv_aload_n C dX6_advance_102 rfl rfl ?_
    refine zv_getR C dX6_advance_103 f_X6_12 hd.2.2.2.1 rfl hrt ?_
    refine zv_getI C dX6_advance_106 f_X6_160 hd.2.1 rfl ?_
    try simp (disch := omega) only [zsF_eq, zsF_ne]
    try rw [zsF_ne (by decide)]
    rw [e1]
    refine zv_icmp_lt C 120 dX6_advance_109 rfl (fun h109 => ?_) (fun h109 => ?_)
    · refine zv_aload_n C dX6_advance_120 rfl rfl ?_
      refine zv_getR C dX6_advance_121 f_X6_12 hd.2.2.2.1 rfl hrt ?_
      refine zv_aload_n C dX6_advance_124 rfl rfl ?_
      refine zv_getI C dX6_advance_125 f_X6_93 hd.2.2.2.1 rfl ?_
      try simp (disch := omega) only [zsF_eq, zsF_ne]
      try rw [zsF_ne (by decide)]
      rw [h6]
      refine zv_cVi0_1 C dX6_advance_128 k_X7_at l_X6_100 hd.2.1 rfl ⟨Nat.le_of_ble_eq_true rfl, Nat.le_of_ble_eq_true rfl⟩ ⟨rfl, rfl⟩ ⟨Nat.le_of_ble_eq_true rfl, Nat.le_of_ble_eq_true rfl⟩ rfl rfl ?_
      refine s_X7_at hd (by rw [zsF_ne (by decide)]; omega) ?_
      rw [zsF_ne (by decide), if_pos ⟨by omega, by omega⟩, hb _ (by omega) (by omega)]
      refine zv_bipush C dX6_advance_131 rfl ?_
      refine zv_icmp_ne C 154 dX6_advance_133 rfl (fun h133 => ?_) (fun h133 => ?_)
      · refine zv_aload_n C dX6_advance_154 rfl rfl ?_
        refine zv_cVv0_0 C dX6_advance_155 k_X6_takeRun l_X6_166 hd.2.2.2.1 rfl ⟨Nat.le_of_ble_eq_true rfl, Nat.le_of_ble_eq_true rfl⟩ ⟨rfl, rfl⟩ ⟨Nat.le_of_ble_eq_true rfl, Nat.le_of_ble_eq_true rfl⟩ rfl rfl ?_
        refine s_X6_takeRun hd hrt (by rw [zsF_ne (by decide)]; exact e1) hn0 hn2 hb (zsF_eq) (by omega) (by omega) (fun F1 f1 r3 r4 r5 r6 => ?_)
        rw [zsF_ne (by decide)] at r6
        refine zv_return C dX6_advance_158 rfl rfl rfl ?_
        first
        | (have k := tK_600 (b := b) (n := n) (p := FI 3 3) (by omega) (by omega)
           refine hp _ (((hF.set (by decide)).set (by decide)).set (by decide)) ⟨?_, ?_, fun z => by omega, fun z => by omega⟩
           · rw [zsF_ne (by decide), zsF_eq, k.2]
           · rw [zsF_eq, k.1])
        | (have k := tK_end (b := b) (n := n) (p := FI 3 3) (by omega) (by omega)
           refine hp _ ((hF.set (by decide)).set (by decide)) ⟨?_, ?_, fun z => by omega, fun z => by omega⟩
           · rw [zsF_ne (by decide), zsF_ne (by decide), h6, k.2, hq]
           · rw [zsF_eq, k.1])
        | (have k := tK_sign (b := b) (n := n) (p := FI 3 3) (by omega) (by omega) (by rw [hq]; omega)
           refine hp _ (((hF.set (by decide)).set (by decide)).set (by decide)) ⟨?_, ?_, fun z => ?_, fun z => by omega⟩
           · rw [zsF_ne (by decide), zsF_ne (by decide), zsF_ne (by decide), h6, k.2.1, hq]
           · rw [zsF_ne (by decide), zsF_eq, k.1]
           · rw [zsF_eq, k.2.2, hq])
        | (have hc : ¬ (600 < n ∧ 600 ≤ tF b n (FI 3 3)) := by omega
           have eP : tP b n (FI 3 3) = q := by unfold tP; rw [if_neg hc, hq]
           have eR : tR b n (FI 3 3) = (tE b n q - q).toNat := by unfold tR; rw [hq]
           have eK : tK b n (FI 3 3) = rKd b q (tE b n q - q).toNat := by
             unfold tK
             rw [if_neg hc, if_neg (by omega), if_neg (by rw [hq]; omega), eR, hq]
             rfl
           have eK4 : tK b n (FI 3 3) ≠ 4 := by
             rw [eK]
             unfold rKd
             repeat (first | omega | split)
           have hz := tE_b (b := b) (n := n) (n - q).toNat q
           have eN : tN b n (FI 3 3) = q + (tE b n q - q).toNat := by
             unfold tN
             rw [if_neg eK4, hq]
             have eE : tE b n q = zrn b n (n - q).toNat q := rfl
             omega
           refine hp F1 ((hF.set (by decide)).trans f1) ⟨?_, ?_, fun z => ?_, fun z => ?_⟩
           · rw [r6, h6, eP]
           · rw [r4, eK]
           · rw [r3, eN]
           · rw [eK] at z
             unfold tV
             rw [hq, eR]
             unfold rKd at z
             by_cases c1 : 0 < (tE b n q - q).toNat ∧ zdg b q (tE b n q - q).toNat = 0
             · rw [if_pos c1] at z; omega
             · rw [if_neg c1] at z
               by_cases c2 : 0 < (tE b n q - q).toNat ∧ zdg b q (tE b n q - q).toNat = (tE b n q - q).toNat ∧ (tE b n q - q).toNat ≤ 5
               · exact r5 c2.2.1 c2.2.2
               · rw [if_neg c2] at z; omega)
      · refine zv_aload_n C dX6_advance_136 rfl rfl ?_
        refine zv_iconst C dX6_advance_137 rfl ?_
        refine zv_putI C dX6_advance_138 f_X6_45 hd.2.2.2.1 rfl ?_
        refine zv_aload_n C dX6_advance_141 rfl rfl ?_
        refine zv_aload_n C dX6_advance_142 rfl rfl ?_
        refine zv_getI C dX6_advance_143 f_X6_93 hd.2.2.2.1 rfl ?_
        try simp (disch := omega) only [zsF_eq, zsF_ne]
        try simp (disch := omega) only [zsF_eq, zsF_ne]
        try rw [h6]
        refine zv_iconst C dX6_advance_146 rfl ?_
        refine zv_iadd C dX6_advance_147 ⟨by omega, by omega⟩ ?_
        refine zv_putI C dX6_advance_148 f_X6_32 hd.2.2.2.1 rfl ?_
        refine zv_goto C 158 dX6_advance_151 rfl ?_
        refine zv_return C dX6_advance_158 rfl rfl rfl ?_
        first
        | (have k := tK_600 (b := b) (n := n) (p := FI 3 3) (by omega) (by omega)
           refine hp _ (((hF.set (by decide)).set (by decide)).set (by decide)) ⟨?_, ?_, fun z => by omega, fun z => by omega⟩
           · rw [zsF_ne (by decide), zsF_eq, k.2]
           · rw [zsF_eq, k.1])
        | (have k := tK_end (b := b) (n := n) (p := FI 3 3) (by omega) (by omega)
           refine hp _ ((hF.set (by decide)).set (by decide)) ⟨?_, ?_, fun z => by omega, fun z => by omega⟩
           · rw [zsF_ne (by decide), zsF_ne (by decide), h6, k.2, hq]
           · rw [zsF_eq, k.1])
        | (have k := tK_sign (b := b) (n := n) (p := FI 3 3) (by omega) (by omega) (by rw [hq]; omega)
           refine hp _ (((hF.set (by decide)).set (by decide)).set (by decide)) ⟨?_, ?_, fun z => ?_, fun z => by omega⟩
           · rw [zsF_ne (by decide), zsF_ne (by decide), zsF_ne (by decide), h6, k.2.1, hq]
           · rw [zsF_ne (by decide), zsF_eq, k.1]
           · rw [zsF_eq, k.2.2, hq])
        | (have hc : ¬ (600 < n ∧ 600 ≤ tF b n (FI 3 3)) := by omega
           have eP : tP b n (FI 3 3) = q := by unfold tP; rw [if_neg hc, hq]
           have eR : tR b n (FI 3 3) = (tE b n q - q).toNat := by unfold tR; rw [hq]
           have eK : tK b n (FI 3 3) = rKd b q (tE b n q - q).toNat := by
             unfold tK
             rw [if_neg hc, if_neg (by omega), if_neg (by rw [hq]; omega), eR, hq]
             rfl
           have eK4 : tK b n (FI 3 3) ≠ 4 := by
             rw [eK]
             unfold rKd
             repeat (first | omega | split)
           have hz := tE_b (b := b) (n := n) (n - q).toNat q
           have eN : tN b n (FI 3 3) = q + (tE b n q - q).toNat := by
             unfold tN
             rw [if_neg eK4, hq]
             have eE : tE b n q = zrn b n (n - q).toNat q := rfl
             omega
           refine hp F1 ((hF.set (by decide)).trans f1) ⟨?_, ?_, fun z => ?_, fun z => ?_⟩
           · rw [r6, h6, eP]
           · rw [r4, eK]
           · rw [r3, eN]
           · rw [eK] at z
             unfold tV
             rw [hq, eR]
             unfold rKd at z
             by_cases c1 : 0 < (tE b n q - q).toNat ∧ zdg b q (tE b n q - q).toNat = 0
             · rw [if_pos c1] at z; omega
             · rw [if_neg c1] at z
               by_cases c2 : 0 < (tE b n q - q).toNat ∧ zdg b q (tE b n q - q).toNat = (tE b n q - q).toNat ∧ (tE b n q - q).toNat ≤ 5
               · exact r5 c2.2.1 c2.2.2
               · rw [if_neg c2] at z; omega)
    · refine zv_aload_n C dX6_advance_112 rfl rfl ?_
      refine zv_iconst C dX6_advance_113 rfl ?_
      refine zv_putI C dX6_advance_114 f_X6_45 hd.2.2.2.1 rfl ?_
      refine zv_goto C 158 dX6_advance_117 rfl ?_
      refine zv_return C dX6_advance_158 rfl rfl rfl ?_
      first
      | (have k := tK_600 (b := b) (n := n) (p := FI 3 3) (by omega) (by omega)
         refine hp _ (((hF.set (by decide)).set (by decide)).set (by decide)) ⟨?_, ?_, fun z => by omega, fun z => by omega⟩
         · rw [zsF_ne (by decide), zsF_eq, k.2]
         · rw [zsF_eq, k.1])
      | (have k := tK_end (b := b) (n := n) (p := FI 3 3) (by omega) (by omega)
         refine hp _ ((hF.set (by decide)).set (by decide)) ⟨?_, ?_, fun z => by omega, fun z => by omega⟩
         · rw [zsF_ne (by decide), zsF_ne (by decide), h6, k.2, hq]
         · rw [zsF_eq, k.1])
      | (have k := tK_sign (b := b) (n := n) (p := FI 3 3) (by omega) (by omega) (by rw [hq]; omega)
         refine hp _ (((hF.set (by decide)).set (by decide)).set (by decide)) ⟨?_, ?_, fun z => ?_, fun z => by omega⟩
         · rw [zsF_ne (by decide), zsF_ne (by decide), zsF_ne (by decide), h6, k.2.1, hq]
         · rw [zsF_ne (by decide), zsF_eq, k.1]
         · rw [zsF_eq, k.2.2, hq])
      | (have hc : ¬ (600 < n ∧ 600 ≤ tF b n (FI 3 3)) := by omega
         have eP : tP b n (FI 3 3) = q := by unfold tP; rw [if_neg hc, hq]
         have eR : tR b n (FI 3 3) = (tE b n q - q).toNat := by unfold tR; rw [hq]
         have eK : tK b n (FI 3 3) = rKd b q (tE b n q - q).toNat := by
           unfold tK
           rw [if_neg hc, if_neg (by omega), if_neg (by rw [hq]; omega), eR, hq]
           rfl
         have eK4 : tK b n (FI 3 3) ≠ 4 := by
           rw [eK]
           unfold rKd
           repeat (first | omega | split)
         have hz := tE_b (b := b) (n := n) (n - q).toNat q
         have eN : tN b n (FI 3 3) = q + (tE b n q - q).toNat := by
           unfold tN
           rw [if_neg eK4, hq]
           have eE : tE b n q = zrn b n (n - q).toNat q := rfl
           omega
         refine hp F1 ((hF.set (by decide)).trans f1) ⟨?_, ?_, fun z => ?_, fun z => ?_⟩
         · rw [r6, h6, eP]
         · rw [r4, eK]
         · rw [r3, eN]
         · rw [eK] at z
           unfold tV
           rw [hq, eR]
           unfold rKd at z
           by_cases c1 : 0 < (tE b n q - q).toNat ∧ zdg b q (tE b n q - q).toNat = 0
           · rw [if_pos c1] at z; omega
           · rw [if_neg c1] at z
             by_cases c2 : 0 < (tE b n q - q).toNat ∧ zdg b q (tE b n q - q).toNat = (tE b n q - q).toNat ∧ (tE b n q - q).toNat ≤ 5
             · exact r5 c2.2.1 c2.2.2
             · rw [if_neg c2] at z; omega)
  · refine zv_aload_n C dX6_advance_70 rfl rfl ?_
    refine zv_getR C dX6_advance_71 f_X6_12 hd.2.2.2.1 rfl hrt ?_
    refine zv_getI C dX6_advance_74 f_X6_160 hd.2.1 rfl ?_
    try simp (disch := omega) only [zsF_eq, zsF_ne]
    try rw [zsF_ne (by decide)]
    rw [e1]
    refine zv_sipush C dX6_advance_77 rfl ?_
    refine zv_icmp_le C 98 dX6_advance_80 rfl (fun h80 => ?_) (fun h80 => ?_)
    · refine zv_aload_n C dX6_advance_98 rfl rfl ?_
      refine zv_getI C dX6_advance_99 f_X6_93 hd.2.2.2.1 rfl ?_
      try simp (disch := omega) only [zsF_eq, zsF_ne]
      try rw [zsF_ne (by decide)]
      rw [h6]
      refine zv_aload_n C dX6_advance_102 rfl rfl ?_
      refine zv_getR C dX6_advance_103 f_X6_12 hd.2.2.2.1 rfl hrt ?_
      refine zv_getI C dX6_advance_106 f_X6_160 hd.2.1 rfl ?_
      try simp (disch := omega) only [zsF_eq, zsF_ne]
      try rw [zsF_ne (by decide)]
      rw [e1]
      refine zv_icmp_lt C 120 dX6_advance_109 rfl (fun h109 => ?_) (fun h109 => ?_)
      · refine zv_aload_n C dX6_advance_120 rfl rfl ?_
        refine zv_getR C dX6_advance_121 f_X6_12 hd.2.2.2.1 rfl hrt ?_
        refine zv_aload_n C dX6_advance_124 rfl rfl ?_
        refine zv_getI C dX6_advance_125 f_X6_93 hd.2.2.2.1 rfl ?_
        try simp (disch := omega) only [zsF_eq, zsF_ne]
        try rw [zsF_ne (by decide)]
        rw [h6]
        refine zv_cVi0_1 C dX6_advance_128 k_X7_at l_X6_100 hd.2.1 rfl ⟨Nat.le_of_ble_eq_true rfl, Nat.le_of_ble_eq_true rfl⟩ ⟨rfl, rfl⟩ ⟨Nat.le_of_ble_eq_true rfl, Nat.le_of_ble_eq_true rfl⟩ rfl rfl ?_
        refine s_X7_at hd (by rw [zsF_ne (by decide)]; omega) ?_
        rw [zsF_ne (by decide), if_pos ⟨by omega, by omega⟩, hb _ (by omega) (by omega)]
        refine zv_bipush C dX6_advance_131 rfl ?_
        refine zv_icmp_ne C 154 dX6_advance_133 rfl (fun h133 => ?_) (fun h133 => ?_)
        · refine zv_aload_n C dX6_advance_154 rfl rfl ?_
          refine zv_cVv0_0 C dX6_advance_155 k_X6_takeRun l_X6_166 hd.2.2.2.1 rfl ⟨Nat.le_of_ble_eq_true rfl, Nat.le_of_ble_eq_true rfl⟩ ⟨rfl, rfl⟩ ⟨Nat.le_of_ble_eq_true rfl, Nat.le_of_ble_eq_true rfl⟩ rfl rfl ?_
          refine s_X6_takeRun hd hrt (by rw [zsF_ne (by decide)]; exact e1) hn0 hn2 hb (zsF_eq) (by omega) (by omega) (fun F1 f1 r3 r4 r5 r6 => ?_)
          rw [zsF_ne (by decide)] at r6
          refine zv_return C dX6_advance_158 rfl rfl rfl ?_
          first
          | (have k := tK_600 (b := b) (n := n) (p := FI 3 3) (by omega) (by omega)
             refine hp _ (((hF.set (by decide)).set (by decide)).set (by decide)) ⟨?_, ?_, fun z => by omega, fun z => by omega⟩
             · rw [zsF_ne (by decide), zsF_eq, k.2]
             · rw [zsF_eq, k.1])
          | (have k := tK_end (b := b) (n := n) (p := FI 3 3) (by omega) (by omega)
             refine hp _ ((hF.set (by decide)).set (by decide)) ⟨?_, ?_, fun z => by omega, fun z => by omega⟩
             · rw [zsF_ne (by decide), zsF_ne (by decide), h6, k.2, hq]
             · rw [zsF_eq, k.1])
          | (have k := tK_sign (b := b) (n := n) (p := FI 3 3) (by omega) (by omega) (by rw [hq]; omega)
             refine hp _ (((hF.set (by decide)).set (by decide)).set (by decide)) ⟨?_, ?_, fun z => ?_, fun z => by omega⟩
             · rw [zsF_ne (by decide), zsF_ne (by decide), zsF_ne (by decide), h6, k.2.1, hq]
             · rw [zsF_ne (by decide), zsF_eq, k.1]
             · rw [zsF_eq, k.2.2, hq])
          | (have hc : ¬ (600 < n ∧ 600 ≤ tF b n (FI 3 3)) := by omega
             have eP : tP b n (FI 3 3) = q := by unfold tP; rw [if_neg hc, hq]
             have eR : tR b n (FI 3 3) = (tE b n q - q).toNat := by unfold tR; rw [hq]
             have eK : tK b n (FI 3 3) = rKd b q (tE b n q - q).toNat := by
               unfold tK
               rw [if_neg hc, if_neg (by omega), if_neg (by rw [hq]; omega), eR, hq]
               rfl
             have eK4 : tK b n (FI 3 3) ≠ 4 := by
               rw [eK]
               unfold rKd
               repeat (first | omega | split)
             have hz := tE_b (b := b) (n := n) (n - q).toNat q
             have eN : tN b n (FI 3 3) = q + (tE b n q - q).toNat := by
               unfold tN
               rw [if_neg eK4, hq]
               have eE : tE b n q = zrn b n (n - q).toNat q := rfl
               omega
             refine hp F1 ((hF.set (by decide)).trans f1) ⟨?_, ?_, fun z => ?_, fun z => ?_⟩
             · rw [r6, h6, eP]
             · rw [r4, eK]
             · rw [r3, eN]
             · rw [eK] at z
               unfold tV
               rw [hq, eR]
               unfold rKd at z
               by_cases c1 : 0 < (tE b n q - q).toNat ∧ zdg b q (tE b n q - q).toNat = 0
               · rw [if_pos c1] at z; omega
               · rw [if_neg c1] at z
                 by_cases c2 : 0 < (tE b n q - q).toNat ∧ zdg b q (tE b n q - q).toNat = (tE b n q - q).toNat ∧ (tE b n q - q).toNat ≤ 5
                 · exact r5 c2.2.1 c2.2.2
                 · rw [if_neg c2] at z; omega)
        · refine zv_aload_n C dX6_advance_136 rfl rfl ?_
          refine zv_iconst C dX6_advance_137 rfl ?_
          refine zv_putI C dX6_advance_138 f_X6_45 hd.2.2.2.1 rfl ?_
          refine zv_aload_n C dX6_advance_141 rfl rfl ?_
          refine zv_aload_n C dX6_advance_142 rfl rfl ?_
          refine zv_getI C dX6_advance_143 f_X6_93 hd.2.2.2.1 rfl ?_
          try simp (disch := omega) only [zsF_eq, zsF_ne]
          try simp (disch := omega) only [zsF_eq, zsF_ne]
          try rw [h6]
          refine zv_iconst C dX6_advance_146 rfl ?_
          refine zv_iadd C dX6_advance_147 ⟨by omega, by omega⟩ ?_
          refine zv_putI C dX6_advance_148 f_X6_32 hd.2.2.2.1 rfl ?_
          refine zv_goto C 158 dX6_advance_151 rfl ?_
          refine zv_return C dX6_advance_158 rfl rfl rfl ?_
          first
          | (have k := tK_600 (b := b) (n := n) (p := FI 3 3) (by omega) (by omega)
             refine hp _ (((hF.set (by decide)).set (by decide)).set (by decide)) ⟨?_, ?_, fun z => by omega, fun z => by omega⟩
             · rw [zsF_ne (by decide), zsF_eq, k.2]
             · rw [zsF_eq, k.1])
          | (have k := tK_end (b := b) (n := n) (p := FI 3 3) (by omega) (by omega)
             refine hp _ ((hF.set (by decide)).set (by decide)) ⟨?_, ?_, fun z => by omega, fun z => by omega⟩
             · rw [zsF_ne (by decide), zsF_ne (by decide), h6, k.2, hq]
             · rw [zsF_eq, k.1])
          | (have k := tK_sign (b := b) (n := n) (p := FI 3 3) (by omega) (by omega) (by rw [hq]; omega)
             refine hp _ (((hF.set (by decide)).set (by decide)).set (by decide)) ⟨?_, ?_, fun z => ?_, fun z => by omega⟩
             · rw [zsF_ne (by decide), zsF_ne (by decide), zsF_ne (by decide), h6, k.2.1, hq]
             · rw [zsF_ne (by decide), zsF_eq, k.1]
             · rw [zsF_eq, k.2.2, hq])
          | (have hc : ¬ (600 < n ∧ 600 ≤ tF b n (FI 3 3)) := by omega
             have eP : tP b n (FI 3 3) = q := by unfold tP; rw [if_neg hc, hq]
             have eR : tR b n (FI 3 3) = (tE b n q - q).toNat := by unfold tR; rw [hq]
             have eK : tK b n (FI 3 3) = rKd b q (tE b n q - q).toNat := by
               unfold tK
               rw [if_neg hc, if_neg (by omega), if_neg (by rw [hq]; omega), eR, hq]
               rfl
             have eK4 : tK b n (FI 3 3) ≠ 4 := by
               rw [eK]
               unfold rKd
               repeat (first | omega | split)
             have hz := tE_b (b := b) (n := n) (n - q).toNat q
             have eN : tN b n (FI 3 3) = q + (tE b n q - q).toNat := by
               unfold tN
               rw [if_neg eK4, hq]
               have eE : tE b n q = zrn b n (n - q).toNat q := rfl
               omega
             refine hp F1 ((hF.set (by decide)).trans f1) ⟨?_, ?_, fun z => ?_, fun z => ?_⟩
             · rw [r6, h6, eP]
             · rw [r4, eK]
             · rw [r3, eN]
             · rw [eK] at z
               unfold tV
               rw [hq, eR]
               unfold rKd at z
               by_cases c1 : 0 < (tE b n q - q).toNat ∧ zdg b q (tE b n q - q).toNat = 0
               · rw [if_pos c1] at z; omega
               · rw [if_neg c1] at z
                 by_cases c2 : 0 < (tE b n q - q).toNat ∧ zdg b q (tE b n q - q).toNat = (tE b n q - q).toNat ∧ (tE b n q - q).toNat ≤ 5
                 · exact r5 c2.2.1 c2.2.2
                 · rw [if_neg c2] at z; omega)
      · refine zv_aload_n C dX6_advance_112 rfl rfl ?_
        refine zv_iconst C dX6_advance_113 rfl ?_
        refine zv_putI C dX6_advance_114 f_X6_45 hd.2.2.2.1 rfl ?_
        refine zv_goto C 158 dX6_advance_117 rfl ?_
        refine zv_return C dX6_advance_158 rfl rfl rfl ?_
        first
        | (have k := tK_600 (b := b) (n := n) (p := FI 3 3) (by omega) (by omega)
           refine hp _ (((hF.set (by decide)).set (by decide)).set (by decide)) ⟨?_, ?_, fun z => by omega, fun z => by omega⟩
           · rw [zsF_ne (by decide), zsF_eq, k.2]
           · rw [zsF_eq, k.1])
        | (have k := tK_end (b := b) (n := n) (p := FI 3 3) (by omega) (by omega)
           refine hp _ ((hF.set (by decide)).set (by decide)) ⟨?_, ?_, fun z => by omega, fun z => by omega⟩
           · rw [zsF_ne (by decide), zsF_ne (by decide), h6, k.2, hq]
           · rw [zsF_eq, k.1])
        | (have k := tK_sign (b := b) (n := n) (p := FI 3 3) (by omega) (by omega) (by rw [hq]; omega)
           refine hp _ (((hF.set (by decide)).set (by decide)).set (by decide)) ⟨?_, ?_, fun z => ?_, fun z => by omega⟩
           · rw [zsF_ne (by decide), zsF_ne (by decide), zsF_ne (by decide), h6, k.2.1, hq]
           · rw [zsF_ne (by decide), zsF_eq, k.1]
           · rw [zsF_eq, k.2.2, hq])
        | (have hc : ¬ (600 < n ∧ 600 ≤ tF b n (FI 3 3)) := by omega
           have eP : tP b n (FI 3 3) = q := by unfold tP; rw [if_neg hc, hq]
           have eR : tR b n (FI 3 3) = (tE b n q - q).toNat := by unfold tR; rw [hq]
           have eK : tK b n (FI 3 3) = rKd b q (tE b n q - q).toNat := by
             unfold tK
             rw [if_neg hc, if_neg (by omega), if_neg (by rw [hq]; omega), eR, hq]
             rfl
           have eK4 : tK b n (FI 3 3) ≠ 4 := by
             rw [eK]
             unfold rKd
             repeat (first | omega | split)
           have hz := tE_b (b := b) (n := n) (n - q).toNat q
           have eN : tN b n (FI 3 3) = q + (tE b n q - q).toNat := by
             unfold tN
             rw [if_neg eK4, hq]
             have eE : tE b n q = zrn b n (n - q).toNat q := rfl
             omega
           refine hp F1 ((hF.set (by decide)).trans f1) ⟨?_, ?_, fun z => ?_, fun z => ?_⟩
           · rw [r6, h6, eP]
           · rw [r4, eK]
           · rw [r3, eN]
           · rw [eK] at z
             unfold tV
             rw [hq, eR]
             unfold rKd at z
             by_cases c1 : 0 < (tE b n q - q).toNat ∧ zdg b q (tE b n q - q).toNat = 0
             · rw [if_pos c1] at z; omega
             · rw [if_neg c1] at z
               by_cases c2 : 0 < (tE b n q - q).toNat ∧ zdg b q (tE b n q - q).toNat = (tE b n q - q).toNat ∧ (tE b n q - q).toNat ≤ 5
               · exact r5 c2.2.1 c2.2.2
               · rw [if_neg c2] at z; omega)
    · refine zv_aload_n C dX6_advance_83 rfl rfl ?_
      refine zv_sipush C dX6_advance_84 rfl ?_
      refine zv_putI C dX6_advance_87 f_X6_93 hd.2.2.2.1 rfl ?_
      refine zv_aload_n C dX6_advance_90 rfl rfl ?_
      refine zv_iconst C dX6_advance_91 rfl ?_
      refine zv_putI C dX6_advance_92 f_X6_45 hd.2.2.2.1 rfl ?_
      refine zv_goto C 158 dX6_advance_95 rfl ?_
      refine zv_return C dX6_advance_158 rfl rfl rfl ?_
      first
      | (have k := tK_600 (b := b) (n := n) (p := FI 3 3) (by omega) (by omega)
         refine hp _ (((hF.set (by decide)).set (by decide)).set (by decide)) ⟨?_, ?_, fun z => by omega, fun z => by omega⟩
         · rw [zsF_ne (by decide), zsF_eq, k.2]
         · rw [zsF_eq, k.1])
      | (have k := tK_end (b := b) (n := n) (p := FI 3 3) (by omega) (by omega)
         refine hp _ ((hF.set (by decide)).set (by decide)) ⟨?_, ?_, fun z => by omega, fun z => by omega⟩
         · rw [zsF_ne (by decide), zsF_ne (by decide), h6, k.2, hq]
         · rw [zsF_eq, k.1])
      | (have k := tK_sign (b := b) (n := n) (p := FI 3 3) (by omega) (by omega) (by rw [hq]; omega)
         refine hp _ (((hF.set (by decide)).set (by decide)).set (by decide)) ⟨?_, ?_, fun z => ?_, fun z => by omega⟩
         · rw [zsF_ne (by decide), zsF_ne (by decide), zsF_ne (by decide), h6, k.2.1, hq]
         · rw [zsF_ne (by decide), zsF_eq, k.1]
         · rw [zsF_eq, k.2.2, hq])
      | (have hc : ¬ (600 < n ∧ 600 ≤ tF b n (FI 3 3)) := by omega
         have eP : tP b n (FI 3 3) = q := by unfold tP; rw [if_neg hc, hq]
         have eR : tR b n (FI 3 3) = (tE b n q - q).toNat := by unfold tR; rw [hq]
         have eK : tK b n (FI 3 3) = rKd b q (tE b n q - q).toNat := by
           unfold tK
           rw [if_neg hc, if_neg (by omega), if_neg (by rw [hq]; omega), eR, hq]
           rfl
         have eK4 : tK b n (FI 3 3) ≠ 4 := by
           rw [eK]
           unfold rKd
           repeat (first | omega | split)
         have hz := tE_b (b := b) (n := n) (n - q).toNat q
         have eN : tN b n (FI 3 3) = q + (tE b n q - q).toNat := by
           unfold tN
           rw [if_neg eK4, hq]
           have eE : tE b n q = zrn b n (n - q).toNat q := rfl
           omega
         refine hp F1 ((hF.set (by decide)).trans f1) ⟨?_, ?_, fun z => ?_, fun z => ?_⟩
         · rw [r6, h6, eP]
         · rw [r4, eK]
         · rw [r3, eN]
         · rw [eK] at z
           unfold tV
           rw [hq, eR]
           unfold rKd at z
           by_cases c1 : 0 < (tE b n q - q).toNat ∧ zdg b q (tE b n q - q).toNat = 0
           · rw [if_pos c1] at z; omega
           · rw [if_neg c1] at z
             by_cases c2 : 0 < (tE b n q - q).toNat ∧ zdg b q (tE b n q - q).toNat = (tE b n q - q).toNat ∧ (tE b n q - q).toNat ≤ 5
             · exact r5 c2.2.1 c2.2.2
             · rw [if_neg c2] at z; omega)

