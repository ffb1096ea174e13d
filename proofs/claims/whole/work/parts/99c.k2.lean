/-- with room for ordinal -/
def M2_X6_isOneMore : zMd := (yX6_isOneMore, cX6_isOneMore, 2, (some .boolean), { frames := 1, cells := 0, slots := 0, locals := 20 })
theorem k2_X6_isOneMore : zMv M2_X6_isOneMore 1 := ⟨⟨k_X6_isOneMore.1.1, k_X6_isOneMore.1.2.1, ⟨by decide, by decide⟩, by decide +kernel⟩, k_X6_isOneMore.2.1, k_X6_isOneMore.2.2⟩
set_option maxRecDepth 20000 in
theorem s_X6_isOneMore0 {T : zTt} {FR : zFR} {AR : zAR} {FI : zFI} {AI : zAI} {Post : zPost} {B D : Nat} {N : Int → Int}  (hd : dLay T FR B D) (hrb : FR 3 2 = some D) (hD : bLay T FR D) (hK : bk FI AI D N) (hb : N 2 ≤ 3 ∧ N 3 ≤ 16 ∧ N 4 ≤ 10) (h1 : lFull N 0 → Post (zI 1) T FR AR FI AI) (h0 : ¬ lFull N 0 → Post (zI 0) T FR AR FI AI) : zMet M2_X6_isOneMore [zR 3, zA 0] T FR AR FI AI Post := by
  refine zMet.of [some (zR 3), some (zA 0)] rfl rfl rfl (fun G C => ?_)
  obtain ⟨k0, k1, k2, k3, k4, k5, k6, k7, k8⟩ := id hK
  refine zv_getsA (j := 8) (q := 8) C dX6_isOneMore_0 fs_X6_114 (fun sa => rfl) ?_
  refine zv_aload_n C dX6_isOneMore_3 rfl rfl ?_
  refine zg_callUA (as := []) (M' := M_Jx29ce0_ordinal_8abf5) C dX6_isOneMore_4 ⟨mk_Jx29ce0_ordinal_8abf5, im_Jx29ce0_ordinal_8abf5⟩ l_X6_119 sm_ord se_ord rfl (zOS_line (by decide)) rfl ⟨Nat.le_of_ble_eq_true rfl, Nat.le_of_ble_eq_true rfl⟩ ⟨Nat.le_of_ble_eq_true rfl, Nat.le_of_ble_eq_true rfl⟩ rfl ?_
  refine s_Jx29ce0_ordinal_8abf5 (by decide) ?_
  show zV G 7 [some (zR 3), some (zA 0)] [zI ((0 : Nat) : Int), zA 8] T FR AR FI AI 0 0
  refine zv_ialoadA (x := 5) C dX6_isOneMore_7 zTS_sw ⟨by omega, by omega⟩ (fun sa => congrArg Value.int (by decide)) ⟨by omega, by omega⟩ ?_
  refine zv_tableOut C 93 dX6_isOneMore_8 (by omega) rfl ?_
  refine zv_iconst C dX6_isOneMore_93 rfl ?_
  refine zv_ireturn C dX6_isOneMore_94 rfl rfl rfl rfl ?_
  exact h0 (by unfold lFull; omega)
set_option maxRecDepth 20000 in
theorem s_X6_isOneMore1 {T : zTt} {FR : zFR} {AR : zAR} {FI : zFI} {AI : zAI} {Post : zPost} {B D : Nat} {N : Int → Int}  (hd : dLay T FR B D) (hrb : FR 3 2 = some D) (hD : bLay T FR D) (hK : bk FI AI D N) (hb : N 2 ≤ 3 ∧ N 3 ≤ 16 ∧ N 4 ≤ 10) (h1 : lFull N 1 → Post (zI 1) T FR AR FI AI) (h0 : ¬ lFull N 1 → Post (zI 0) T FR AR FI AI) : zMet M2_X6_isOneMore [zR 3, zA 1] T FR AR FI AI Post := by
  refine zMet.of [some (zR 3), some (zA 1)] rfl rfl rfl (fun G C => ?_)
  obtain ⟨k0, k1, k2, k3, k4, k5, k6, k7, k8⟩ := id hK
  refine zv_getsA (j := 8) (q := 8) C dX6_isOneMore_0 fs_X6_114 (fun sa => rfl) ?_
  refine zv_aload_n C dX6_isOneMore_3 rfl rfl ?_
  refine zg_callUA (as := []) (M' := M_Jx29ce0_ordinal_8abf5) C dX6_isOneMore_4 ⟨mk_Jx29ce0_ordinal_8abf5, im_Jx29ce0_ordinal_8abf5⟩ l_X6_119 sm_ord se_ord rfl (zOS_line (by decide)) rfl ⟨Nat.le_of_ble_eq_true rfl, Nat.le_of_ble_eq_true rfl⟩ ⟨Nat.le_of_ble_eq_true rfl, Nat.le_of_ble_eq_true rfl⟩ rfl ?_
  refine s_Jx29ce0_ordinal_8abf5 (by decide) ?_
  show zV G 7 [some (zR 3), some (zA 1)] [zI ((1 : Nat) : Int), zA 8] T FR AR FI AI 0 0
  refine zv_ialoadA (x := 1) C dX6_isOneMore_7 zTS_sw ⟨by omega, by omega⟩ (fun sa => congrArg Value.int (by decide)) ⟨by omega, by omega⟩ ?_
  refine zv_tableIn C 40 dX6_isOneMore_8 (by omega) (by omega) rfl rfl ?_
  refine zv_aload_n C dX6_isOneMore_40 rfl rfl ?_
  refine zv_getR C dX6_isOneMore_41 f_X6_25 hd.2.2.2.1 rfl hrb ?_
  refine zv_getI C dX6_isOneMore_44 f_X6_111 hD.1 rfl ?_
  refine zv_iconst C dX6_isOneMore_47 rfl ?_
  rw [k2]
  refine zv_icmp_lt C 55 dX6_isOneMore_48 rfl (fun h48 => ?_) (fun h48 => ?_)
  · refine zv_iconst C dX6_isOneMore_55 rfl ?_
    refine zv_ireturn C dX6_isOneMore_56 rfl rfl rfl rfl ?_
    exact h0 (by unfold lFull; omega)
  · refine zv_iconst C dX6_isOneMore_51 rfl ?_
    refine zv_goto C 56 dX6_isOneMore_52 rfl ?_
    refine zv_ireturn C dX6_isOneMore_56 rfl rfl rfl rfl ?_
    exact h1 (by unfold lFull; omega)
set_option maxRecDepth 20000 in
theorem s_X6_isOneMore2 {T : zTt} {FR : zFR} {AR : zAR} {FI : zFI} {AI : zAI} {Post : zPost} {B D : Nat} {N : Int → Int}  (hd : dLay T FR B D) (hrb : FR 3 2 = some D) (hD : bLay T FR D) (hK : bk FI AI D N) (hb : N 2 ≤ 3 ∧ N 3 ≤ 16 ∧ N 4 ≤ 10) (h1 : lFull N 2 → Post (zI 1) T FR AR FI AI) (h0 : ¬ lFull N 2 → Post (zI 0) T FR AR FI AI) : zMet M2_X6_isOneMore [zR 3, zA 2] T FR AR FI AI Post := by
  refine zMet.of [some (zR 3), some (zA 2)] rfl rfl rfl (fun G C => ?_)
  obtain ⟨k0, k1, k2, k3, k4, k5, k6, k7, k8⟩ := id hK
  refine zv_getsA (j := 8) (q := 8) C dX6_isOneMore_0 fs_X6_114 (fun sa => rfl) ?_
  refine zv_aload_n C dX6_isOneMore_3 rfl rfl ?_
  refine zg_callUA (as := []) (M' := M_Jx29ce0_ordinal_8abf5) C dX6_isOneMore_4 ⟨mk_Jx29ce0_ordinal_8abf5, im_Jx29ce0_ordinal_8abf5⟩ l_X6_119 sm_ord se_ord rfl (zOS_line (by decide)) rfl ⟨Nat.le_of_ble_eq_true rfl, Nat.le_of_ble_eq_true rfl⟩ ⟨Nat.le_of_ble_eq_true rfl, Nat.le_of_ble_eq_true rfl⟩ rfl ?_
  refine s_Jx29ce0_ordinal_8abf5 (by decide) ?_
  show zV G 7 [some (zR 3), some (zA 2)] [zI ((2 : Nat) : Int), zA 8] T FR AR FI AI 0 0
  refine zv_ialoadA (x := 6) C dX6_isOneMore_7 zTS_sw ⟨by omega, by omega⟩ (fun sa => congrArg Value.int (by decide)) ⟨by omega, by omega⟩ ?_
  refine zv_tableOut C 93 dX6_isOneMore_8 (by omega) rfl ?_
  refine zv_iconst C dX6_isOneMore_93 rfl ?_
  refine zv_ireturn C dX6_isOneMore_94 rfl rfl rfl rfl ?_
  exact h0 (by unfold lFull; omega)
set_option maxRecDepth 20000 in
theorem s_X6_isOneMore3 {T : zTt} {FR : zFR} {AR : zAR} {FI : zFI} {AI : zAI} {Post : zPost} {B D : Nat} {N : Int → Int}  (hd : dLay T FR B D) (hrb : FR 3 2 = some D) (hD : bLay T FR D) (hK : bk FI AI D N) (hb : N 2 ≤ 3 ∧ N 3 ≤ 16 ∧ N 4 ≤ 10) (h1 : lFull N 3 → Post (zI 1) T FR AR FI AI) (h0 : ¬ lFull N 3 → Post (zI 0) T FR AR FI AI) : zMet M2_X6_isOneMore [zR 3, zA 3] T FR AR FI AI Post := by
  refine zMet.of [some (zR 3), some (zA 3)] rfl rfl rfl (fun G C => ?_)
  obtain ⟨k0, k1, k2, k3, k4, k5, k6, k7, k8⟩ := id hK
  refine zv_getsA (j := 8) (q := 8) C dX6_isOneMore_0 fs_X6_114 (fun sa => rfl) ?_
  refine zv_aload_n C dX6_isOneMore_3 rfl rfl ?_
  refine zg_callUA (as := []) (M' := M_Jx29ce0_ordinal_8abf5) C dX6_isOneMore_4 ⟨mk_Jx29ce0_ordinal_8abf5, im_Jx29ce0_ordinal_8abf5⟩ l_X6_119 sm_ord se_ord rfl (zOS_line (by decide)) rfl ⟨Nat.le_of_ble_eq_true rfl, Nat.le_of_ble_eq_true rfl⟩ ⟨Nat.le_of_ble_eq_true rfl, Nat.le_of_ble_eq_true rfl⟩ rfl ?_
  refine s_Jx29ce0_ordinal_8abf5 (by decide) ?_
  show zV G 7 [some (zR 3), some (zA 3)] [zI ((3 : Nat) : Int), zA 8] T FR AR FI AI 0 0
  refine zv_ialoadA (x := 7) C dX6_isOneMore_7 zTS_sw ⟨by omega, by omega⟩ (fun sa => congrArg Value.int (by decide)) ⟨by omega, by omega⟩ ?_
  refine zv_tableOut C 93 dX6_isOneMore_8 (by omega) rfl ?_
  refine zv_iconst C dX6_isOneMore_93 rfl ?_
  refine zv_ireturn C dX6_isOneMore_94 rfl rfl rfl rfl ?_
  exact h0 (by unfold lFull; omega)
set_option maxRecDepth 20000 in
theorem s_X6_isOneMore4 {T : zTt} {FR : zFR} {AR : zAR} {FI : zFI} {AI : zAI} {Post : zPost} {B D : Nat} {N : Int → Int}  (hd : dLay T FR B D) (hrb : FR 3 2 = some D) (hD : bLay T FR D) (hK : bk FI AI D N) (hb : N 2 ≤ 3 ∧ N 3 ≤ 16 ∧ N 4 ≤ 10) (h1 : lFull N 4 → Post (zI 1) T FR AR FI AI) (h0 : ¬ lFull N 4 → Post (zI 0) T FR AR FI AI) : zMet M2_X6_isOneMore [zR 3, zA 4] T FR AR FI AI Post := by
  refine zMet.of [some (zR 3), some (zA 4)] rfl rfl rfl (fun G C => ?_)
  obtain ⟨k0, k1, k2, k3, k4, k5, k6, k7, k8⟩ := id hK
  refine zv_getsA (j := 8) (q := 8) C dX6_isOneMore_0 fs_X6_114 (fun sa => rfl) ?_
  refine zv_aload_n C dX6_isOneMore_3 rfl rfl ?_
  refine zg_callUA (as := []) (M' := M_Jx29ce0_ordinal_8abf5) C dX6_isOneMore_4 ⟨mk_Jx29ce0_ordinal_8abf5, im_Jx29ce0_ordinal_8abf5⟩ l_X6_119 sm_ord se_ord rfl (zOS_line (by decide)) rfl ⟨Nat.le_of_ble_eq_true rfl, Nat.le_of_ble_eq_true rfl⟩ ⟨Nat.le_of_ble_eq_true rfl, Nat.le_of_ble_eq_true rfl⟩ rfl ?_
  refine s_Jx29ce0_ordinal_8abf5 (by decide) ?_
  show zV G 7 [some (zR 3), some (zA 4)] [zI ((4 : Nat) : Int), zA 8] T FR AR FI AI 0 0
  refine zv_ialoadA (x := 2) C dX6_isOneMore_7 zTS_sw ⟨by omega, by omega⟩ (fun sa => congrArg Value.int (by decide)) ⟨by omega, by omega⟩ ?_
  refine zv_tableIn C 57 dX6_isOneMore_8 (by omega) (by omega) rfl rfl ?_
  refine zv_aload_n C dX6_isOneMore_57 rfl rfl ?_
  refine zv_getR C dX6_isOneMore_58 f_X6_25 hd.2.2.2.1 rfl hrb ?_
  refine zv_getI C dX6_isOneMore_61 f_X6_122 hD.1 rfl ?_
  refine zv_bipush C dX6_isOneMore_64 rfl ?_
  rw [k3]
  refine zv_icmp_lt C 73 dX6_isOneMore_66 rfl (fun h66 => ?_) (fun h66 => ?_)
  · refine zv_iconst C dX6_isOneMore_73 rfl ?_
    refine zv_ireturn C dX6_isOneMore_74 rfl rfl rfl rfl ?_
    exact h0 (by unfold lFull; omega)
  · refine zv_iconst C dX6_isOneMore_69 rfl ?_
    refine zv_goto C 74 dX6_isOneMore_70 rfl ?_
    refine zv_ireturn C dX6_isOneMore_74 rfl rfl rfl rfl ?_
    exact h1 (by unfold lFull; omega)
set_option maxRecDepth 20000 in
theorem s_X6_isOneMore5 {T : zTt} {FR : zFR} {AR : zAR} {FI : zFI} {AI : zAI} {Post : zPost} {B D : Nat} {N : Int → Int}  (hd : dLay T FR B D) (hrb : FR 3 2 = some D) (hD : bLay T FR D) (hK : bk FI AI D N) (hb : N 2 ≤ 3 ∧ N 3 ≤ 16 ∧ N 4 ≤ 10) (h1 : lFull N 5 → Post (zI 1) T FR AR FI AI) (h0 : ¬ lFull N 5 → Post (zI 0) T FR AR FI AI) : zMet M2_X6_isOneMore [zR 3, zA 5] T FR AR FI AI Post := by
  refine zMet.of [some (zR 3), some (zA 5)] rfl rfl rfl (fun G C => ?_)
  obtain ⟨k0, k1, k2, k3, k4, k5, k6, k7, k8⟩ := id hK
  refine zv_getsA (j := 8) (q := 8) C dX6_isOneMore_0 fs_X6_114 (fun sa => rfl) ?_
  refine zv_aload_n C dX6_isOneMore_3 rfl rfl ?_
  refine zg_callUA (as := []) (M' := M_Jx29ce0_ordinal_8abf5) C dX6_isOneMore_4 ⟨mk_Jx29ce0_ordinal_8abf5, im_Jx29ce0_ordinal_8abf5⟩ l_X6_119 sm_ord se_ord rfl (zOS_line (by decide)) rfl ⟨Nat.le_of_ble_eq_true rfl, Nat.le_of_ble_eq_true rfl⟩ ⟨Nat.le_of_ble_eq_true rfl, Nat.le_of_ble_eq_true rfl⟩ rfl ?_
  refine s_Jx29ce0_ordinal_8abf5 (by decide) ?_
  show zV G 7 [some (zR 3), some (zA 5)] [zI ((5 : Nat) : Int), zA 8] T FR AR FI AI 0 0
  refine zv_ialoadA (x := 3) C dX6_isOneMore_7 zTS_sw ⟨by omega, by omega⟩ (fun sa => congrArg Value.int (by decide)) ⟨by omega, by omega⟩ ?_
  refine zv_tableIn C 57 dX6_isOneMore_8 (by omega) (by omega) rfl rfl ?_
  refine zv_aload_n C dX6_isOneMore_57 rfl rfl ?_
  refine zv_getR C dX6_isOneMore_58 f_X6_25 hd.2.2.2.1 rfl hrb ?_
  refine zv_getI C dX6_isOneMore_61 f_X6_122 hD.1 rfl ?_
  refine zv_bipush C dX6_isOneMore_64 rfl ?_
  rw [k3]
  refine zv_icmp_lt C 73 dX6_isOneMore_66 rfl (fun h66 => ?_) (fun h66 => ?_)
  · refine zv_iconst C dX6_isOneMore_73 rfl ?_
    refine zv_ireturn C dX6_isOneMore_74 rfl rfl rfl rfl ?_
    exact h0 (by unfold lFull; omega)
  · refine zv_iconst C dX6_isOneMore_69 rfl ?_
    refine zv_goto C 74 dX6_isOneMore_70 rfl ?_
    refine zv_ireturn C dX6_isOneMore_74 rfl rfl rfl rfl ?_
    exact h1 (by unfold lFull; omega)
set_option maxRecDepth 20000 in
theorem s_X6_isOneMore6 {T : zTt} {FR : zFR} {AR : zAR} {FI : zFI} {AI : zAI} {Post : zPost} {B D : Nat} {N : Int → Int}  (hd : dLay T FR B D) (hrb : FR 3 2 = some D) (hD : bLay T FR D) (hK : bk FI AI D N) (hb : N 2 ≤ 3 ∧ N 3 ≤ 16 ∧ N 4 ≤ 10) (h1 : lFull N 6 → Post (zI 1) T FR AR FI AI) (h0 : ¬ lFull N 6 → Post (zI 0) T FR AR FI AI) : zMet M2_X6_isOneMore [zR 3, zA 6] T FR AR FI AI Post := by
  refine zMet.of [some (zR 3), some (zA 6)] rfl rfl rfl (fun G C => ?_)
  obtain ⟨k0, k1, k2, k3, k4, k5, k6, k7, k8⟩ := id hK
  refine zv_getsA (j := 8) (q := 8) C dX6_isOneMore_0 fs_X6_114 (fun sa => rfl) ?_
  refine zv_aload_n C dX6_isOneMore_3 rfl rfl ?_
  refine zg_callUA (as := []) (M' := M_Jx29ce0_ordinal_8abf5) C dX6_isOneMore_4 ⟨mk_Jx29ce0_ordinal_8abf5, im_Jx29ce0_ordinal_8abf5⟩ l_X6_119 sm_ord se_ord rfl (zOS_line (by decide)) rfl ⟨Nat.le_of_ble_eq_true rfl, Nat.le_of_ble_eq_true rfl⟩ ⟨Nat.le_of_ble_eq_true rfl, Nat.le_of_ble_eq_true rfl⟩ rfl ?_
  refine s_Jx29ce0_ordinal_8abf5 (by decide) ?_
  show zV G 7 [some (zR 3), some (zA 6)] [zI ((6 : Nat) : Int), zA 8] T FR AR FI AI 0 0
  refine zv_ialoadA (x := 4) C dX6_isOneMore_7 zTS_sw ⟨by omega, by omega⟩ (fun sa => congrArg Value.int (by decide)) ⟨by omega, by omega⟩ ?_
  refine zv_tableIn C 75 dX6_isOneMore_8 (by omega) (by omega) rfl rfl ?_
  refine zv_aload_n C dX6_isOneMore_75 rfl rfl ?_
  refine zv_getR C dX6_isOneMore_76 f_X6_25 hd.2.2.2.1 rfl hrb ?_
  refine zv_getI C dX6_isOneMore_79 f_X6_125 hD.1 rfl ?_
  refine zv_bipush C dX6_isOneMore_82 rfl ?_
  rw [k4]
  refine zv_icmp_lt C 91 dX6_isOneMore_84 rfl (fun h84 => ?_) (fun h84 => ?_)
  · refine zv_iconst C dX6_isOneMore_91 rfl ?_
    refine zv_ireturn C dX6_isOneMore_92 rfl rfl rfl rfl ?_
    exact h0 (by unfold lFull; omega)
  · refine zv_iconst C dX6_isOneMore_87 rfl ?_
    refine zv_goto C 92 dX6_isOneMore_88 rfl ?_
    refine zv_ireturn C dX6_isOneMore_92 rfl rfl rfl rfl ?_
    exact h1 (by unfold lFull; omega)
theorem s_X6_isOneMore {T : zTt} {FR : zFR} {AR : zAR} {FI : zFI} {AI : zAI} {Post : zPost} {B D : Nat} {N : Int → Int} {j : Nat} (hj : j < 7) (hd : dLay T FR B D) (hrb : FR 3 2 = some D) (hD : bLay T FR D) (hK : bk FI AI D N) (hb : N 2 ≤ 3 ∧ N 3 ≤ 16 ∧ N 4 ≤ 10) (h1 : lFull N j → Post (zI 1) T FR AR FI AI) (h0 : ¬ lFull N j → Post (zI 0) T FR AR FI AI) : zMet M2_X6_isOneMore [zR 3, zA j] T FR AR FI AI Post := by
  rcases (show j = 0 ∨ j = 1 ∨ j = 2 ∨ j = 3 ∨ j = 4 ∨ j = 5 ∨ j = 6 by omega) with e | e | e | e | e | e | e <;> subst e
  · exact s_X6_isOneMore0 hd hrb hD hK hb h1 h0
  · exact s_X6_isOneMore1 hd hrb hD hK hb h1 h0
  · exact s_X6_isOneMore2 hd hrb hD hK hb h1 h0
  · exact s_X6_isOneMore3 hd hrb hD hK hb h1 h0
  · exact s_X6_isOneMore4 hd hrb hD hK hb h1 h0
  · exact s_X6_isOneMore5 hd hrb hD hK hb h1 h0
  · exact s_X6_isOneMore6 hd hrb hD hK hb h1 h0
set_option maxRecDepth 20000 in
theorem s_X6_enter0 {T : zTt} {FR : zFR} {AR : zAR} {FI : zFI} {AI : zAI} {Post : zPost} {B D : Nat} {N : Int → Int} {V : Nat → Int}  (hd : dLay T FR B D) (hrb : FR 3 2 = some D) (hD : bLay T FR D) (hK : bk FI AI D N)  (hv0 : AI 4 0 = V 0) (hp : ∀ (F1 : zFI) (A1 : zAI), bFr D FI F1 AI A1 → bk F1 A1 D (nLn 0 N V) → Post (zI 0) T FR AR F1 A1) : zMet M_X6_enter [zR 3, zA 0] T FR AR FI AI Post := by
  refine zMet.of [some (zR 3), some (zA 0)] rfl rfl rfl (fun G C => ?_)
  obtain ⟨k0, k1, k2, k3, k4, k5, k6, k7, k8⟩ := id hK
  refine zv_getsA (j := 8) (q := 8) C dX6_enter_0 fs_X6_114 (fun sa => rfl) ?_
  refine zv_aload_n C dX6_enter_3 rfl rfl ?_
  refine zg_callUA (as := []) (M' := M_Jx29ce0_ordinal_8abf5) C dX6_enter_4 ⟨mk_Jx29ce0_ordinal_8abf5, im_Jx29ce0_ordinal_8abf5⟩ l_X6_119 sm_ord se_ord rfl (zOS_line (by decide)) rfl ⟨Nat.le_of_ble_eq_true rfl, Nat.le_of_ble_eq_true rfl⟩ ⟨Nat.le_of_ble_eq_true rfl, Nat.le_of_ble_eq_true rfl⟩ rfl ?_
  refine s_Jx29ce0_ordinal_8abf5 (by decide) ?_
  show zV G 7 [some (zR 3), some (zA 0)] [zI ((0 : Nat) : Int), zA 8] T FR AR FI AI 0 0
  refine zv_ialoadA (x := 5) C dX6_enter_7 zTS_sw ⟨by omega, by omega⟩ (fun sa => congrArg Value.int (by decide)) ⟨by omega, by omega⟩ ?_
  refine zv_tableIn C 52 dX6_enter_8 (by omega) (by omega) rfl rfl ?_
  refine zv_aload_n C dX6_enter_52 rfl rfl ?_
  refine zv_getR C dX6_enter_53 f_X6_25 hd.2.2.2.1 rfl hrb ?_
  refine zv_aload_n C dX6_enter_56 rfl rfl ?_
  refine zv_getR C dX6_enter_57 f_X6_18 hd.2.2.2.1 rfl hd.2.2.2.2.2.2.2.2.2.2.2.2.2.2.2.2.1 ?_
  refine zv_iconst C dX6_enter_60 rfl ?_
  refine zv_iaload C dX6_enter_61 hd.2.2.2.2.1 ⟨by omega, by omega⟩ ?_
  rw [hv0]
  refine zv_putI C dX6_enter_62 f_X6_139 hD.1 rfl ?_
  refine zv_goto C 239 dX6_enter_65 rfl ?_
  refine zv_return C dX6_enter_239 rfl rfl rfl ?_
  rw [nLn_0] at hp
  exact hp _ _ bFr.rfl.setF (bk_carry hK)
set_option maxRecDepth 20000 in
theorem s_X6_enter1 {T : zTt} {FR : zFR} {AR : zAR} {FI : zFI} {AI : zAI} {Post : zPost} {B D : Nat} {N : Int → Int} {V : Nat → Int}  (hd : dLay T FR B D) (hrb : FR 3 2 = some D) (hD : bLay T FR D) (hK : bk FI AI D N) (gf : 0 ≤ N 2 ∧ N 2 < 3) (hv0 : AI 4 0 = V 0) (hp : ∀ (F1 : zFI) (A1 : zAI), bFr D FI F1 AI A1 → bk F1 A1 D (nLn 1 N V) → Post (zI 0) T FR AR F1 A1) : zMet M_X6_enter [zR 3, zA 1] T FR AR FI AI Post := by
  refine zMet.of [some (zR 3), some (zA 1)] rfl rfl rfl (fun G C => ?_)
  obtain ⟨k0, k1, k2, k3, k4, k5, k6, k7, k8⟩ := id hK
  refine zv_getsA (j := 8) (q := 8) C dX6_enter_0 fs_X6_114 (fun sa => rfl) ?_
  refine zv_aload_n C dX6_enter_3 rfl rfl ?_
  refine zg_callUA (as := []) (M' := M_Jx29ce0_ordinal_8abf5) C dX6_enter_4 ⟨mk_Jx29ce0_ordinal_8abf5, im_Jx29ce0_ordinal_8abf5⟩ l_X6_119 sm_ord se_ord rfl (zOS_line (by decide)) rfl ⟨Nat.le_of_ble_eq_true rfl, Nat.le_of_ble_eq_true rfl⟩ ⟨Nat.le_of_ble_eq_true rfl, Nat.le_of_ble_eq_true rfl⟩ rfl ?_
  refine s_Jx29ce0_ordinal_8abf5 (by decide) ?_
  show zV G 7 [some (zR 3), some (zA 1)] [zI ((1 : Nat) : Int), zA 8] T FR AR FI AI 0 0
  refine zv_ialoadA (x := 1) C dX6_enter_7 zTS_sw ⟨by omega, by omega⟩ (fun sa => congrArg Value.int (by decide)) ⟨by omega, by omega⟩ ?_
  refine zv_tableIn C 68 dX6_enter_8 (by omega) (by omega) rfl rfl ?_
  refine zv_aload_n C dX6_enter_68 rfl rfl ?_
  refine zv_getR C dX6_enter_69 f_X6_25 hd.2.2.2.1 rfl hrb ?_
  refine zv_aload_n C dX6_enter_72 rfl rfl ?_
  refine zv_getR C dX6_enter_73 f_X6_25 hd.2.2.2.1 rfl hrb ?_
  refine zv_getI C dX6_enter_76 f_X6_111 hD.1 rfl ?_
  refine zv_iconst C dX6_enter_79 rfl ?_
  refine zv_aload_n C dX6_enter_80 rfl rfl ?_
  refine zv_getR C dX6_enter_81 f_X6_18 hd.2.2.2.1 rfl hd.2.2.2.2.2.2.2.2.2.2.2.2.2.2.2.2.1 ?_
  refine zv_iconst C dX6_enter_84 rfl ?_
  refine zv_iaload C dX6_enter_85 hd.2.2.2.2.1 ⟨by omega, by omega⟩ ?_
  rw [hv0, k2]
  refine zv_cVv0_3 C dX6_enter_86 k_X2_setRate l_X6_142 hD.1 rfl ⟨Nat.le_of_ble_eq_true rfl, Nat.le_of_ble_eq_true rfl⟩ ⟨rfl, rfl⟩ ⟨Nat.le_of_ble_eq_true rfl, Nat.le_of_ble_eq_true rfl⟩ rfl rfl ?_
  refine s_X2_setRate hD (by omega) (by omega) (by omega) (by omega) ?_
  refine zv_aload_n C dX6_enter_89 rfl rfl ?_
  refine zv_getR C dX6_enter_90 f_X6_25 hd.2.2.2.1 rfl hrb ?_
  refine zv_dup C dX6_enter_93 rfl ?_
  refine zv_getI C dX6_enter_94 f_X6_111 hD.1 rfl ?_
  rw [k2]
  refine zv_iconst C dX6_enter_97 rfl ?_
  refine zv_iadd C dX6_enter_98 ⟨by omega, by omega⟩ ?_
  refine zv_putI C dX6_enter_99 f_X6_111 hD.1 rfl ?_
  refine zv_goto C 239 dX6_enter_102 rfl ?_
  refine zv_return C dX6_enter_239 rfl rfl rfl ?_
  rw [nLn_1] at hp
  exact hp _ _ (bFr.setF ⟨fun _ _ _ => rfl, fun a ha => zfill_neF (by omega)⟩) (bk_office hK (by omega) (by omega))
set_option maxRecDepth 20000 in
theorem s_X6_enter2 {T : zTt} {FR : zFR} {AR : zAR} {FI : zFI} {AI : zAI} {Post : zPost} {B D : Nat} {N : Int → Int} {V : Nat → Int}  (hd : dLay T FR B D) (hrb : FR 3 2 = some D) (hD : bLay T FR D) (hK : bk FI AI D N) (g2 : N 2 ≤ 3) (u0 : 0 ≤ V 0 ∧ V 0 < 3) (u1 : 0 ≤ V 1 ∧ V 1 ≤ 39) (hv0 : AI 4 0 = V 0) (hv1 : AI 4 1 = V 1) (hv2 : AI 4 2 = V 2) (hp : ∀ (F1 : zFI) (A1 : zAI), bFr D FI F1 AI A1 → bk F1 A1 D (nLn 2 N V) → Post (zI 0) T FR AR F1 A1) : zMet M_X6_enter [zR 3, zA 2] T FR AR FI AI Post := by
  refine zMet.of [some (zR 3), some (zA 2)] rfl rfl rfl (fun G C => ?_)
  obtain ⟨k0, k1, k2, k3, k4, k5, k6, k7, k8⟩ := id hK
  refine zv_getsA (j := 8) (q := 8) C dX6_enter_0 fs_X6_114 (fun sa => rfl) ?_
  refine zv_aload_n C dX6_enter_3 rfl rfl ?_
  refine zg_callUA (as := []) (M' := M_Jx29ce0_ordinal_8abf5) C dX6_enter_4 ⟨mk_Jx29ce0_ordinal_8abf5, im_Jx29ce0_ordinal_8abf5⟩ l_X6_119 sm_ord se_ord rfl (zOS_line (by decide)) rfl ⟨Nat.le_of_ble_eq_true rfl, Nat.le_of_ble_eq_true rfl⟩ ⟨Nat.le_of_ble_eq_true rfl, Nat.le_of_ble_eq_true rfl⟩ rfl ?_
  refine s_Jx29ce0_ordinal_8abf5 (by decide) ?_
  show zV G 7 [some (zR 3), some (zA 2)] [zI ((2 : Nat) : Int), zA 8] T FR AR FI AI 0 0
  refine zv_ialoadA (x := 6) C dX6_enter_7 zTS_sw ⟨by omega, by omega⟩ (fun sa => congrArg Value.int (by decide)) ⟨by omega, by omega⟩ ?_
  refine zv_tableIn C 105 dX6_enter_8 (by omega) (by omega) rfl rfl ?_
  refine zv_aload_n C dX6_enter_105 rfl rfl ?_
  refine zv_getR C dX6_enter_106 f_X6_25 hd.2.2.2.1 rfl hrb ?_
  refine zv_aload_n C dX6_enter_109 rfl rfl ?_
  refine zv_getR C dX6_enter_110 f_X6_18 hd.2.2.2.1 rfl hd.2.2.2.2.2.2.2.2.2.2.2.2.2.2.2.2.1 ?_
  refine zv_iconst C dX6_enter_113 rfl ?_
  refine zv_iaload C dX6_enter_114 hd.2.2.2.2.1 ⟨by omega, by omega⟩ ?_
  refine zv_aload_n C dX6_enter_115 rfl rfl ?_
  refine zv_getR C dX6_enter_116 f_X6_18 hd.2.2.2.1 rfl hd.2.2.2.2.2.2.2.2.2.2.2.2.2.2.2.2.1 ?_
  refine zv_iconst C dX6_enter_119 rfl ?_
  refine zv_iaload C dX6_enter_120 hd.2.2.2.2.1 ⟨by omega, by omega⟩ ?_
  refine zv_aload_n C dX6_enter_121 rfl rfl ?_
  refine zv_getR C dX6_enter_122 f_X6_18 hd.2.2.2.1 rfl hd.2.2.2.2.2.2.2.2.2.2.2.2.2.2.2.2.1 ?_
  refine zv_iconst C dX6_enter_125 rfl ?_
  refine zv_iaload C dX6_enter_126 hd.2.2.2.2.1 ⟨by omega, by omega⟩ ?_
  rw [hv0, hv1, hv2]
  refine zv_cVv0_3 C dX6_enter_127 k_X2_setRate l_X6_142 hD.1 rfl ⟨Nat.le_of_ble_eq_true rfl, Nat.le_of_ble_eq_true rfl⟩ ⟨rfl, rfl⟩ ⟨Nat.le_of_ble_eq_true rfl, Nat.le_of_ble_eq_true rfl⟩ rfl rfl ?_
  refine s_X2_setRate hD (by omega) (by omega) (by omega) (by omega) ?_
  refine zv_goto C 239 dX6_enter_130 rfl ?_
  refine zv_return C dX6_enter_239 rfl rfl rfl ?_
  rw [nLn_2] at hp
  exact hp _ _ ⟨fun _ _ _ => rfl, fun a ha => zfill_neF (by omega)⟩ (bk_rate hK (by omega) (by omega) (by omega) (by omega))
set_option maxRecDepth 20000 in
theorem s_X6_enter3 {T : zTt} {FR : zFR} {AR : zAR} {FI : zFI} {AI : zAI} {Post : zPost} {B D : Nat} {N : Int → Int} {V : Nat → Int}  (hd : dLay T FR B D) (hrb : FR 3 2 = some D) (hD : bLay T FR D) (hK : bk FI AI D N) (g2 : N 2 ≤ 3) (u0 : 0 ≤ V 0 ∧ V 0 < 3) (u1 : 0 ≤ V 1 ∧ V 1 ≤ 39) (hv0 : AI 4 0 = V 0) (hv1 : AI 4 1 = V 1) (hv2 : AI 4 2 = V 2) (hp : ∀ (F1 : zFI) (A1 : zAI), bFr D FI F1 AI A1 → bk F1 A1 D (nLn 3 N V) → Post (zI 0) T FR AR F1 A1) : zMet M_X6_enter [zR 3, zA 3] T FR AR FI AI Post := by
  refine zMet.of [some (zR 3), some (zA 3)] rfl rfl rfl (fun G C => ?_)
  obtain ⟨k0, k1, k2, k3, k4, k5, k6, k7, k8⟩ := id hK
  refine zv_getsA (j := 8) (q := 8) C dX6_enter_0 fs_X6_114 (fun sa => rfl) ?_
  refine zv_aload_n C dX6_enter_3 rfl rfl ?_
  refine zg_callUA (as := []) (M' := M_Jx29ce0_ordinal_8abf5) C dX6_enter_4 ⟨mk_Jx29ce0_ordinal_8abf5, im_Jx29ce0_ordinal_8abf5⟩ l_X6_119 sm_ord se_ord rfl (zOS_line (by decide)) rfl ⟨Nat.le_of_ble_eq_true rfl, Nat.le_of_ble_eq_true rfl⟩ ⟨Nat.le_of_ble_eq_true rfl, Nat.le_of_ble_eq_true rfl⟩ rfl ?_
  refine s_Jx29ce0_ordinal_8abf5 (by decide) ?_
  show zV G 7 [some (zR 3), some (zA 3)] [zI ((3 : Nat) : Int), zA 8] T FR AR FI AI 0 0
  refine zv_ialoadA (x := 7) C dX6_enter_7 zTS_sw ⟨by omega, by omega⟩ (fun sa => congrArg Value.int (by decide)) ⟨by omega, by omega⟩ ?_
  refine zv_tableIn C 133 dX6_enter_8 (by omega) (by omega) rfl rfl ?_
  refine zv_aload_n C dX6_enter_133 rfl rfl ?_
  refine zv_getR C dX6_enter_134 f_X6_25 hd.2.2.2.1 rfl hrb ?_
  refine zv_getR C dX6_enter_137 f_X6_146 hD.1 rfl hD.2.2.2.2.2.2.1 ?_
  refine zv_aload_n C dX6_enter_140 rfl rfl ?_
  refine zv_getR C dX6_enter_141 f_X6_18 hd.2.2.2.1 rfl hd.2.2.2.2.2.2.2.2.2.2.2.2.2.2.2.2.1 ?_
  refine zv_iconst C dX6_enter_144 rfl ?_
  refine zv_iaload C dX6_enter_145 hd.2.2.2.2.1 ⟨by omega, by omega⟩ ?_
  rw [hv0]
  refine zv_bipush C dX6_enter_146 rfl ?_
  refine zv_imul C dX6_enter_148 ⟨by omega, by omega⟩ ?_
  refine zv_aload_n C dX6_enter_149 rfl rfl ?_
  refine zv_getR C dX6_enter_150 f_X6_18 hd.2.2.2.1 rfl hd.2.2.2.2.2.2.2.2.2.2.2.2.2.2.2.2.1 ?_
  refine zv_iconst C dX6_enter_153 rfl ?_
  refine zv_iaload C dX6_enter_154 hd.2.2.2.2.1 ⟨by omega, by omega⟩ ?_
  rw [hv1]
  refine zv_iadd C dX6_enter_155 ⟨by omega, by omega⟩ ?_
  refine zv_aload_n C dX6_enter_156 rfl rfl ?_
  refine zv_getR C dX6_enter_157 f_X6_18 hd.2.2.2.1 rfl hd.2.2.2.2.2.2.2.2.2.2.2.2.2.2.2.2.1 ?_
  refine zv_iconst C dX6_enter_160 rfl ?_
  refine zv_iaload C dX6_enter_161 hd.2.2.2.2.1 ⟨by omega, by omega⟩ ?_
  rw [hv2]
  refine zv_iastore C dX6_enter_162 hD.2.2.1 ⟨by omega, by omega⟩ ?_
  refine zv_goto C 239 dX6_enter_163 rfl ?_
  refine zv_return C dX6_enter_239 rfl rfl rfl ?_
  rw [nLn_3] at hp
  exact hp _ _ (bFr.rfl.setA ⟨by omega, by omega⟩) (bk_profit hK (by omega) (by omega) (by omega) (by omega) (by omega))
set_option maxRecDepth 20000 in
theorem s_X6_enter4 {T : zTt} {FR : zFR} {AR : zAR} {FI : zFI} {AI : zAI} {Post : zPost} {B D : Nat} {N : Int → Int} {V : Nat → Int}  (hd : dLay T FR B D) (hrb : FR 3 2 = some D) (hD : bLay T FR D) (hK : bk FI AI D N) (gb : 0 ≤ N 3 ∧ N 2 ≤ 3 ∧ N 3 < 16 ∧ N 4 ≤ 10) (hv0 : AI 4 0 = V 0) (hv1 : AI 4 1 = V 1) (hv2 : AI 4 2 = V 2) (hv3 : AI 4 3 = V 3) (hp : ∀ (F1 : zFI) (A1 : zAI), bFr D FI F1 AI A1 → bk F1 A1 D (nLn 4 N V) → Post (zI 0) T FR AR F1 A1) : zMet M_X6_enter [zR 3, zA 4] T FR AR FI AI Post := by
  refine zMet.of [some (zR 3), some (zA 4)] rfl rfl rfl (fun G C => ?_)
  obtain ⟨k0, k1, k2, k3, k4, k5, k6, k7, k8⟩ := id hK
  refine zv_getsA (j := 8) (q := 8) C dX6_enter_0 fs_X6_114 (fun sa => rfl) ?_
  refine zv_aload_n C dX6_enter_3 rfl rfl ?_
  refine zg_callUA (as := []) (M' := M_Jx29ce0_ordinal_8abf5) C dX6_enter_4 ⟨mk_Jx29ce0_ordinal_8abf5, im_Jx29ce0_ordinal_8abf5⟩ l_X6_119 sm_ord se_ord rfl (zOS_line (by decide)) rfl ⟨Nat.le_of_ble_eq_true rfl, Nat.le_of_ble_eq_true rfl⟩ ⟨Nat.le_of_ble_eq_true rfl, Nat.le_of_ble_eq_true rfl⟩ rfl ?_
  refine s_Jx29ce0_ordinal_8abf5 (by decide) ?_
  show zV G 7 [some (zR 3), some (zA 4)] [zI ((4 : Nat) : Int), zA 8] T FR AR FI AI 0 0
  refine zv_ialoadA (x := 2) C dX6_enter_7 zTS_sw ⟨by omega, by omega⟩ (fun sa => congrArg Value.int (by decide)) ⟨by omega, by omega⟩ ?_
  refine zv_tableIn C 195 dX6_enter_8 (by omega) (by omega) rfl rfl ?_
  refine zv_aload_n C dX6_enter_195 rfl rfl ?_
  refine zv_getR C dX6_enter_196 f_X6_25 hd.2.2.2.1 rfl hrb ?_
  refine zv_aload_n C dX6_enter_199 rfl rfl ?_
  refine zv_getR C dX6_enter_200 f_X6_18 hd.2.2.2.1 rfl hd.2.2.2.2.2.2.2.2.2.2.2.2.2.2.2.2.1 ?_
  refine zv_iconst C dX6_enter_203 rfl ?_
  refine zv_iaload C dX6_enter_204 hd.2.2.2.2.1 ⟨by omega, by omega⟩ ?_
  refine zv_aload_n C dX6_enter_205 rfl rfl ?_
  refine zv_getsA (j := 4) (q := 4) C dX6_enter_206 fs_X6_153 (fun sa => rfl) ?_
  refine zv_acmp_neA C 216 dX6_enter_209 rfl (by omega) (by omega) (fun h => absurd rfl h) (fun _ => ?_)
  refine zv_iconst C dX6_enter_212 rfl ?_
  refine zv_goto C 217 dX6_enter_213 rfl ?_
  refine zv_aload_n C dX6_enter_217 rfl rfl ?_
  refine zv_getR C dX6_enter_218 f_X6_18 hd.2.2.2.1 rfl hd.2.2.2.2.2.2.2.2.2.2.2.2.2.2.2.2.1 ?_
  refine zv_iconst C dX6_enter_221 rfl ?_
  refine zv_iaload C dX6_enter_222 hd.2.2.2.2.1 ⟨by omega, by omega⟩ ?_
  refine zv_aload_n C dX6_enter_223 rfl rfl ?_
  refine zv_getR C dX6_enter_224 f_X6_18 hd.2.2.2.1 rfl hd.2.2.2.2.2.2.2.2.2.2.2.2.2.2.2.2.1 ?_
  refine zv_iconst C dX6_enter_227 rfl ?_
  refine zv_iaload C dX6_enter_228 hd.2.2.2.2.1 ⟨by omega, by omega⟩ ?_
  refine zv_aload_n C dX6_enter_229 rfl rfl ?_
  refine zv_getR C dX6_enter_230 f_X6_18 hd.2.2.2.1 rfl hd.2.2.2.2.2.2.2.2.2.2.2.2.2.2.2.2.1 ?_
  refine zv_iconst C dX6_enter_233 rfl ?_
  refine zv_iaload C dX6_enter_234 hd.2.2.2.2.1 ⟨by omega, by omega⟩ ?_
  rw [hv0, hv1, hv2, hv3]
  refine zv_cVi0_5 C dX6_enter_235 k_X2_addItem l_X6_156 hD.1 rfl ⟨Nat.le_of_ble_eq_true rfl, Nat.le_of_ble_eq_true rfl⟩ ⟨rfl, rfl⟩ ⟨Nat.le_of_ble_eq_true rfl, Nat.le_of_ble_eq_true rfl⟩ rfl rfl ?_
  refine s_X2_addItem hD hK (by omega) (fun F1 A1 f1 kk => ?_)
  refine zv_pop C dX6_enter_238 rfl ?_
  refine zv_return C dX6_enter_239 rfl rfl rfl ?_
  rw [nLn_4] at hp
  exact hp _ _ f1 kk
set_option maxRecDepth 20000 in
theorem s_X6_enter5 {T : zTt} {FR : zFR} {AR : zAR} {FI : zFI} {AI : zAI} {Post : zPost} {B D : Nat} {N : Int → Int} {V : Nat → Int}  (hd : dLay T FR B D) (hrb : FR 3 2 = some D) (hD : bLay T FR D) (hK : bk FI AI D N) (gb : 0 ≤ N 3 ∧ N 2 ≤ 3 ∧ N 3 < 16 ∧ N 4 ≤ 10) (hv0 : AI 4 0 = V 0) (hv1 : AI 4 1 = V 1) (hv2 : AI 4 2 = V 2) (hv3 : AI 4 3 = V 3) (hp : ∀ (F1 : zFI) (A1 : zAI), bFr D FI F1 AI A1 → bk F1 A1 D (nLn 5 N V) → Post (zI 0) T FR AR F1 A1) : zMet M_X6_enter [zR 3, zA 5] T FR AR FI AI Post := by
  refine zMet.of [some (zR 3), some (zA 5)] rfl rfl rfl (fun G C => ?_)
  obtain ⟨k0, k1, k2, k3, k4, k5, k6, k7, k8⟩ := id hK
  refine zv_getsA (j := 8) (q := 8) C dX6_enter_0 fs_X6_114 (fun sa => rfl) ?_
  refine zv_aload_n C dX6_enter_3 rfl rfl ?_
  refine zg_callUA (as := []) (M' := M_Jx29ce0_ordinal_8abf5) C dX6_enter_4 ⟨mk_Jx29ce0_ordinal_8abf5, im_Jx29ce0_ordinal_8abf5⟩ l_X6_119 sm_ord se_ord rfl (zOS_line (by decide)) rfl ⟨Nat.le_of_ble_eq_true rfl, Nat.le_of_ble_eq_true rfl⟩ ⟨Nat.le_of_ble_eq_true rfl, Nat.le_of_ble_eq_true rfl⟩ rfl ?_
  refine s_Jx29ce0_ordinal_8abf5 (by decide) ?_
  show zV G 7 [some (zR 3), some (zA 5)] [zI ((5 : Nat) : Int), zA 8] T FR AR FI AI 0 0
  refine zv_ialoadA (x := 3) C dX6_enter_7 zTS_sw ⟨by omega, by omega⟩ (fun sa => congrArg Value.int (by decide)) ⟨by omega, by omega⟩ ?_
  refine zv_tableIn C 195 dX6_enter_8 (by omega) (by omega) rfl rfl ?_
  refine zv_aload_n C dX6_enter_195 rfl rfl ?_
  refine zv_getR C dX6_enter_196 f_X6_25 hd.2.2.2.1 rfl hrb ?_
  refine zv_aload_n C dX6_enter_199 rfl rfl ?_
  refine zv_getR C dX6_enter_200 f_X6_18 hd.2.2.2.1 rfl hd.2.2.2.2.2.2.2.2.2.2.2.2.2.2.2.2.1 ?_
  refine zv_iconst C dX6_enter_203 rfl ?_
  refine zv_iaload C dX6_enter_204 hd.2.2.2.2.1 ⟨by omega, by omega⟩ ?_
  refine zv_aload_n C dX6_enter_205 rfl rfl ?_
  refine zv_getsA (j := 4) (q := 4) C dX6_enter_206 fs_X6_153 (fun sa => rfl) ?_
  refine zv_acmp_neA C 216 dX6_enter_209 rfl (by omega) (by omega) (fun _ => ?_) (fun h => absurd h (by decide))
  refine zv_iconst C dX6_enter_216 rfl ?_
  refine zv_aload_n C dX6_enter_217 rfl rfl ?_
  refine zv_getR C dX6_enter_218 f_X6_18 hd.2.2.2.1 rfl hd.2.2.2.2.2.2.2.2.2.2.2.2.2.2.2.2.1 ?_
  refine zv_iconst C dX6_enter_221 rfl ?_
  refine zv_iaload C dX6_enter_222 hd.2.2.2.2.1 ⟨by omega, by omega⟩ ?_
  refine zv_aload_n C dX6_enter_223 rfl rfl ?_
  refine zv_getR C dX6_enter_224 f_X6_18 hd.2.2.2.1 rfl hd.2.2.2.2.2.2.2.2.2.2.2.2.2.2.2.2.1 ?_
  refine zv_iconst C dX6_enter_227 rfl ?_
  refine zv_iaload C dX6_enter_228 hd.2.2.2.2.1 ⟨by omega, by omega⟩ ?_
  refine zv_aload_n C dX6_enter_229 rfl rfl ?_
  refine zv_getR C dX6_enter_230 f_X6_18 hd.2.2.2.1 rfl hd.2.2.2.2.2.2.2.2.2.2.2.2.2.2.2.2.1 ?_
  refine zv_iconst C dX6_enter_233 rfl ?_
  refine zv_iaload C dX6_enter_234 hd.2.2.2.2.1 ⟨by omega, by omega⟩ ?_
  rw [hv0, hv1, hv2, hv3]
  refine zv_cVi0_5 C dX6_enter_235 k_X2_addItem l_X6_156 hD.1 rfl ⟨Nat.le_of_ble_eq_true rfl, Nat.le_of_ble_eq_true rfl⟩ ⟨rfl, rfl⟩ ⟨Nat.le_of_ble_eq_true rfl, Nat.le_of_ble_eq_true rfl⟩ rfl rfl ?_
  refine s_X2_addItem hD hK (by omega) (fun F1 A1 f1 kk => ?_)
  refine zv_pop C dX6_enter_238 rfl ?_
  refine zv_return C dX6_enter_239 rfl rfl rfl ?_
  rw [nLn_5] at hp
  exact hp _ _ f1 kk
set_option maxRecDepth 20000 in
theorem s_X6_enter6 {T : zTt} {FR : zFR} {AR : zAR} {FI : zFI} {AI : zAI} {Post : zPost} {B D : Nat} {N : Int → Int} {V : Nat → Int}  (hd : dLay T FR B D) (hrb : FR 3 2 = some D) (hD : bLay T FR D) (hK : bk FI AI D N) (gb : 0 ≤ N 4 ∧ N 2 ≤ 3 ∧ N 3 ≤ 30 ∧ N 4 < 10) (hv0 : AI 4 0 = V 0) (hv1 : AI 4 1 = V 1) (hv2 : AI 4 2 = V 2) (hp : ∀ (F1 : zFI) (A1 : zAI), bFr D FI F1 AI A1 → bk F1 A1 D (nLn 6 N V) → Post (zI 0) T FR AR F1 A1) : zMet M_X6_enter [zR 3, zA 6] T FR AR FI AI Post := by
  refine zMet.of [some (zR 3), some (zA 6)] rfl rfl rfl (fun G C => ?_)
  obtain ⟨k0, k1, k2, k3, k4, k5, k6, k7, k8⟩ := id hK
  refine zv_getsA (j := 8) (q := 8) C dX6_enter_0 fs_X6_114 (fun sa => rfl) ?_
  refine zv_aload_n C dX6_enter_3 rfl rfl ?_
  refine zg_callUA (as := []) (M' := M_Jx29ce0_ordinal_8abf5) C dX6_enter_4 ⟨mk_Jx29ce0_ordinal_8abf5, im_Jx29ce0_ordinal_8abf5⟩ l_X6_119 sm_ord se_ord rfl (zOS_line (by decide)) rfl ⟨Nat.le_of_ble_eq_true rfl, Nat.le_of_ble_eq_true rfl⟩ ⟨Nat.le_of_ble_eq_true rfl, Nat.le_of_ble_eq_true rfl⟩ rfl ?_
  refine s_Jx29ce0_ordinal_8abf5 (by decide) ?_
  show zV G 7 [some (zR 3), some (zA 6)] [zI ((6 : Nat) : Int), zA 8] T FR AR FI AI 0 0
  refine zv_ialoadA (x := 4) C dX6_enter_7 zTS_sw ⟨by omega, by omega⟩ (fun sa => congrArg Value.int (by decide)) ⟨by omega, by omega⟩ ?_
  refine zv_tableIn C 166 dX6_enter_8 (by omega) (by omega) rfl rfl ?_
  refine zv_aload_n C dX6_enter_166 rfl rfl ?_
  refine zv_getR C dX6_enter_167 f_X6_25 hd.2.2.2.1 rfl hrb ?_
  refine zv_aload_n C dX6_enter_170 rfl rfl ?_
  refine zv_getR C dX6_enter_171 f_X6_18 hd.2.2.2.1 rfl hd.2.2.2.2.2.2.2.2.2.2.2.2.2.2.2.2.1 ?_
  refine zv_iconst C dX6_enter_174 rfl ?_
  refine zv_iaload C dX6_enter_175 hd.2.2.2.2.1 ⟨by omega, by omega⟩ ?_
  refine zv_aload_n C dX6_enter_176 rfl rfl ?_
  refine zv_getR C dX6_enter_177 f_X6_18 hd.2.2.2.1 rfl hd.2.2.2.2.2.2.2.2.2.2.2.2.2.2.2.2.1 ?_
  refine zv_iconst C dX6_enter_180 rfl ?_
  refine zv_iaload C dX6_enter_181 hd.2.2.2.2.1 ⟨by omega, by omega⟩ ?_
  refine zv_aload_n C dX6_enter_182 rfl rfl ?_
  refine zv_getR C dX6_enter_183 f_X6_18 hd.2.2.2.1 rfl hd.2.2.2.2.2.2.2.2.2.2.2.2.2.2.2.2.1 ?_
  refine zv_iconst C dX6_enter_186 rfl ?_
  refine zv_iaload C dX6_enter_187 hd.2.2.2.2.1 ⟨by omega, by omega⟩ ?_
  rw [hv0, hv1, hv2]
  refine zv_cVi0_3 C dX6_enter_188 k_X2_addLoss l_X6_149 hD.1 rfl ⟨Nat.le_of_ble_eq_true rfl, Nat.le_of_ble_eq_true rfl⟩ ⟨rfl, rfl⟩ ⟨Nat.le_of_ble_eq_true rfl, Nat.le_of_ble_eq_true rfl⟩ rfl rfl ?_
  refine s_X2_addLoss hD hK (by omega) (fun F1 A1 f1 kk => ?_)
  refine zv_pop C dX6_enter_191 rfl ?_
  refine zv_goto C 239 dX6_enter_192 rfl ?_
  refine zv_return C dX6_enter_239 rfl rfl rfl ?_
  rw [nLn_6] at hp
  exact hp _ _ f1 kk
theorem s_X6_enter {T : zTt} {FR : zFR} {AR : zAR} {FI : zFI} {AI : zAI} {Post : zPost} {B D : Nat} {N : Int → Int} {V : Nat → Int} {j : Nat} {L : Int} (hj : j < 7) (hd : dLay T FR B D) (hrb : FR 3 2 = some D) (hD : bLay T FR D) (hK : bk FI AI D N) (hT : mT L N) (hf : ¬ lFull N j) (hv : ∀ k : Nat, k < sln j → AI 4 k = V k) (hr : ∀ k : Nat, k < sln j → slo j V k ≤ V k ∧ V k ≤ shi j (N 2) k) (hp : ∀ (F1 : zFI) (A1 : zAI), bFr D FI F1 AI A1 → bk F1 A1 D (nLn j N V) → Post (zI 0) T FR AR F1 A1) : zMet M_X6_enter [zR 3, zA j] T FR AR FI AI Post := by
  obtain ⟨t0, t1, t2, t3, t4, -⟩ := hT
  unfold lFull at hf
  rcases (show j = 0 ∨ j = 1 ∨ j = 2 ∨ j = 3 ∨ j = 4 ∨ j = 5 ∨ j = 6 by omega) with e | e | e | e | e | e | e <;> subst e
  · exact s_X6_enter0 hd hrb hD hK (hv 0 (by decide)) hp
  · exact s_X6_enter1 hd hrb hD hK (by omega) (hv 0 (by decide)) hp
  · have v0 : 0 ≤ V 0 ∧ V 0 ≤ N 2 - 1 := hr 0 (by decide)
    have v1 : 0 ≤ V 1 ∧ V 1 ≤ 39 := hr 1 (by decide)
    exact s_X6_enter2 hd hrb hD hK (by omega) (by omega) (by omega) (hv 0 (by decide)) (hv 1 (by decide)) (hv 2 (by decide)) hp
  · have v0 : 0 ≤ V 0 ∧ V 0 ≤ N 2 - 1 := hr 0 (by decide)
    have v1 : 0 ≤ V 1 ∧ V 1 ≤ 39 := hr 1 (by decide)
    exact s_X6_enter3 hd hrb hD hK (by omega) (by omega) (by omega) (hv 0 (by decide)) (hv 1 (by decide)) (hv 2 (by decide)) hp
  · exact s_X6_enter4 hd hrb hD hK (by omega) (hv 0 (by decide)) (hv 1 (by decide)) (hv 2 (by decide)) (hv 3 (by decide)) hp
  · exact s_X6_enter5 hd hrb hD hK (by omega) (hv 0 (by decide)) (hv 1 (by decide)) (hv 2 (by decide)) (hv 3 (by decide)) hp
  · exact s_X6_enter6 hd hrb hD hK (by omega) (hv 0 (by decide)) (hv 1 (by decide)) (hv 2 (by decide)) hp
