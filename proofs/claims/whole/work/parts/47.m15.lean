set_option maxRecDepth 20000 in
theorem s_X9_two {T : zTt} {FR : zFR} {AR : zAR} {FI : zFI} {AI : zAI} {Post : zPost} {a b : Int} (ga : 0 ≤ a ∧ a ≤ 255) (gb : 0 ≤ b ∧ b ≤ 255) (hp : Post (zL (27 * (a - 96) + b - 96)) T FR AR FI AI) : zMet M_X9_two [zI a, zI b] T FR AR FI AI Post := by
  refine zMet.of [some (zI a), some (zI b)] rfl rfl rfl (fun G C => ?_)
  refine zv_ldc2 (x := 27) C dX9_two_0 c_X9_48 rfl ?_
  refine zv_iload_n C dX9_two_3 rfl ?_
  refine zv_i2l C dX9_two_4 ?_
  refine zv_ldc2 (x := 96) C dX9_two_5 c_X9_50 rfl ?_
  refine zv_lsub C dX9_two_8 ⟨by omega, by omega⟩ ?_
  refine zv_lmul C dX9_two_9 ⟨by omega, by omega⟩ ?_
  refine zv_iload_n C dX9_two_10 rfl ?_
  refine zv_i2l C dX9_two_11 ?_
  refine zv_ladd C dX9_two_12 ⟨by omega, by omega⟩ ?_
  refine zv_ldc2 (x := 96) C dX9_two_13 c_X9_50 rfl ?_
  refine zv_lsub C dX9_two_16 ⟨by omega, by omega⟩ ?_
  refine zv_lreturn C dX9_two_17 rfl rfl rfl ?_
  exact hp
set_option maxRecDepth 20000 in
theorem s_X9_four {T : zTt} {FR : zFR} {AR : zAR} {FI : zFI} {AI : zAI} {Post : zPost} {a b c d : Int} (ga : 0 ≤ a ∧ a ≤ 255) (gb : 0 ≤ b ∧ b ≤ 255) (gc : 0 ≤ c ∧ c ≤ 255) (gd : 0 ≤ d ∧ d ≤ 255) (hp : Post (zL (729 * (27 * (a - 96) + b - 96) + (27 * (c - 96) + d - 96))) T FR AR FI AI) : zMet M_X9_four [zI a, zI b, zI c, zI d] T FR AR FI AI Post := by
  refine zMet.of [some (zI a), some (zI b), some (zI c), some (zI d)] rfl rfl rfl (fun G C => ?_)
  refine zv_ldc2 (x := 729) C dX9_four_0 c_X9_52 rfl ?_
  refine zv_iload_n C dX9_four_3 rfl ?_
  refine zv_iload_n C dX9_four_4 rfl ?_
  refine zv_cSi0_2 C dX9_four_5 k_X9_two l_X9_54 ⟨Nat.le_of_ble_eq_true rfl, Nat.le_of_ble_eq_true rfl⟩ ⟨rfl, rfl⟩ ⟨Nat.le_of_ble_eq_true rfl, Nat.le_of_ble_eq_true rfl⟩ rfl rfl ?_
  refine s_X9_two ga gb ?_
  refine zv_lmul C dX9_four_8 ⟨by omega, by omega⟩ ?_
  refine zv_iload_n C dX9_four_9 rfl ?_
  refine zv_iload_n C dX9_four_10 rfl ?_
  refine zv_cSi0_2 C dX9_four_11 k_X9_two l_X9_54 ⟨Nat.le_of_ble_eq_true rfl, Nat.le_of_ble_eq_true rfl⟩ ⟨rfl, rfl⟩ ⟨Nat.le_of_ble_eq_true rfl, Nat.le_of_ble_eq_true rfl⟩ rfl rfl ?_
  refine s_X9_two gc gd ?_
  refine zv_ladd C dX9_four_14 ⟨by omega, by omega⟩ ?_
  refine zv_lreturn C dX9_four_15 rfl rfl rfl ?_
  exact hp
set_option maxRecDepth 20000 in
theorem s_X9_six {T : zTt} {FR : zFR} {AR : zAR} {FI : zFI} {AI : zAI} {Post : zPost} {a b c d e f : Int} (ga : 0 ≤ a ∧ a ≤ 255) (gb : 0 ≤ b ∧ b ≤ 255) (gc : 0 ≤ c ∧ c ≤ 255) (gd : 0 ≤ d ∧ d ≤ 255) (ge : 0 ≤ e ∧ e ≤ 255) (gf : 0 ≤ f ∧ f ≤ 255) (hp : Post (zL (729 * (729 * (27 * (a - 96) + b - 96) + (27 * (c - 96) + d - 96)) + (27 * (e - 96) + f - 96))) T FR AR FI AI) : zMet M_X9_six [zI a, zI b, zI c, zI d, zI e, zI f] T FR AR FI AI Post := by
  refine zMet.of [some (zI a), some (zI b), some (zI c), some (zI d), some (zI e), some (zI f)] rfl rfl rfl (fun G C => ?_)
  refine zv_ldc2 (x := 729) C dX9_six_0 c_X9_52 rfl ?_
  refine zv_iload_n C dX9_six_3 rfl ?_
  refine zv_iload_n C dX9_six_4 rfl ?_
  refine zv_iload_n C dX9_six_5 rfl ?_
  refine zv_iload_n C dX9_six_6 rfl ?_
  refine zv_cSi0_4 C dX9_six_7 k_X9_four l_X9_58 ⟨Nat.le_of_ble_eq_true rfl, Nat.le_of_ble_eq_true rfl⟩ ⟨rfl, rfl⟩ ⟨Nat.le_of_ble_eq_true rfl, Nat.le_of_ble_eq_true rfl⟩ rfl rfl ?_
  refine s_X9_four ga gb gc gd ?_
  refine zv_lmul C dX9_six_10 ⟨by omega, by omega⟩ ?_
  refine zv_iload C dX9_six_11 rfl ?_
  refine zv_iload C dX9_six_13 rfl ?_
  refine zv_cSi0_2 C dX9_six_15 k_X9_two l_X9_54 ⟨Nat.le_of_ble_eq_true rfl, Nat.le_of_ble_eq_true rfl⟩ ⟨rfl, rfl⟩ ⟨Nat.le_of_ble_eq_true rfl, Nat.le_of_ble_eq_true rfl⟩ rfl rfl ?_
  refine s_X9_two ge gf ?_
  refine zv_ladd C dX9_six_18 ⟨by omega, by omega⟩ ?_
  refine zv_lreturn C dX9_six_19 rfl rfl rfl ?_
  exact hp
set_option maxRecDepth 20000 in
theorem s_X9_isWord {T : zTt} {FR : zFR} {AR : zAR} {FI : zFI} {AI : zAI} {Post : zPost} {b : Int → Int} {n p : Int} {w : Int} (hL : mLay T FR) (hA : tAt FI b n p) (j : Nat) (hj : j < 7) (hw : w = zwd (kch j) 0 (kln j)) (h1 : zKw b n p j → Post (zI 1) T FR AR FI AI) (h0 : ¬ zKw b n p j → Post (zI 0) T FR AR FI AI) : zMet M_X9_isWord [zR 100, zL w] T FR AR FI AI Post := by
  refine zMet.of [some (zR 100), some (zL w), none] rfl rfl rfl (fun G C => ?_)
  have hs := hA.sort
  have h6 := hA.2.2.2.2.2.1
  refine zv_aload_n C dX9_isWord_0 rfl rfl ?_
  refine zv_getI C dX9_isWord_1 f_X9_27 hL.1 rfl ?_
  refine zv_iconst C dX9_isWord_4 rfl ?_
  refine zv_icmp_ne C 21 dX9_isWord_5 rfl (fun h5 => ?_) (fun h5 => ?_)
  · refine zv_iconst C dX9_isWord_21 rfl ?_
    refine zv_ireturn C dX9_isWord_22 rfl rfl rfl rfl ?_
    refine h0 (fun z => ?_)
    have z1 := z.1
    have z2 := (zKw_iff hj z1).2 z
    rw [← h6 z1, ← hw] at z2
    omega
  · refine zv_aload_n C dX9_isWord_8 rfl rfl ?_
    refine zv_getL C dX9_isWord_9 f_X9_37 hL.1 rfl ?_
    refine zv_lload_n C dX9_isWord_12 rfl ?_
    refine zv_lcmp C dX9_isWord_13 ?_
    refine zv_if_ne C 21 dX9_isWord_14 rfl (fun h14 => ?_) (fun h14 => ?_)
    · refine zv_iconst C dX9_isWord_21 rfl ?_
      refine zv_ireturn C dX9_isWord_22 rfl rfl rfl rfl ?_
      refine h0 (fun z => ?_)
      have z1 := z.1
      have z2 := (zKw_iff hj z1).2 z
      rw [← h6 z1, ← hw] at z2
      omega
    · refine zv_iconst C dX9_isWord_17 rfl ?_
      refine zv_goto C 22 dX9_isWord_18 rfl ?_
      refine zv_ireturn C dX9_isWord_22 rfl rfl rfl rfl ?_
      exact h1 ((zKw_iff hj (by omega)).1 (by rw [← h6 (by omega), ← hw]; omega))
set_option maxRecDepth 20000 in
theorem s_X9_bad {T : zTt} {FR : zFR} {AR : zAR} {FI : zFI} {AI : zAI} {Post : zPost} {w : Int} (hL : mLay T FR) (hp : Post (zI 0) T FR AR (zsF (zsF FI 100 8 (if FI 100 6 = 1 then 1 else w)) 100 9 (FI 100 5)) AI) : zMet M_X9_bad [zR 100, zI w] T FR AR FI AI Post := by
  refine zMet.of [some (zR 100), some (zI w)] rfl rfl rfl (fun G C => ?_)
  refine zv_aload_n C dX9_bad_0 rfl rfl ?_
  refine zv_aload_n C dX9_bad_1 rfl rfl ?_
  refine zv_getI C dX9_bad_2 f_X9_27 hL.1 rfl ?_
  refine zv_iconst C dX9_bad_5 rfl ?_
  refine zv_icmp_ne C 13 dX9_bad_6 rfl (fun h6 => ?_) (fun h6 => ?_)
  · refine zv_iload_n C dX9_bad_13 rfl ?_
    refine zv_putI C dX9_bad_14 f_X9_62 hL.1 rfl ?_
    refine zv_aload_n C dX9_bad_17 rfl rfl ?_
    refine zv_aload_n C dX9_bad_18 rfl rfl ?_
    refine zv_getI C dX9_bad_19 f_X9_24 hL.1 rfl ?_
    try simp (disch := omega) only [zsF_eq, zsF_ne]
    refine zv_putI C dX9_bad_22 f_X9_65 hL.1 rfl ?_
    refine zv_iconst C dX9_bad_25 rfl ?_
    refine zv_ireturn C dX9_bad_26 rfl rfl rfl rfl ?_
    first
    | (rw [if_pos (by omega)] at hp; exact hp)
    | (rw [if_neg (by omega)] at hp; exact hp)
  · refine zv_iconst C dX9_bad_9 rfl ?_
    refine zv_goto C 14 dX9_bad_10 rfl ?_
    refine zv_putI C dX9_bad_14 f_X9_62 hL.1 rfl ?_
    refine zv_aload_n C dX9_bad_17 rfl rfl ?_
    refine zv_aload_n C dX9_bad_18 rfl rfl ?_
    refine zv_getI C dX9_bad_19 f_X9_24 hL.1 rfl ?_
    try simp (disch := omega) only [zsF_eq, zsF_ne]
    refine zv_putI C dX9_bad_22 f_X9_65 hL.1 rfl ?_
    refine zv_iconst C dX9_bad_25 rfl ?_
    refine zv_ireturn C dX9_bad_26 rfl rfl rfl rfl ?_
    first
    | (rw [if_pos (by omega)] at hp; exact hp)
    | (rw [if_neg (by omega)] at hp; exact hp)
theorem s2_go {T : zTt} {FR : zFR} {AR : zAR} {FI : zFI} {AI : zAI} {Post : zPost} {b : Int → Int} {n p : Int} (hL : mLay T FR) (eb : AI 101 = b) (hb : ∀ i : Int, 0 ≤ b i ∧ b i ≤ 255) (hn2 : n ≤ 640) (hA : tAt FI b n p) (hk : 2 ≤ tK b n p) (hp : ∀ FI1 : zFI, zFf FI FI1 → tAt FI1 b n (tN b n p) → Post (zI 0) T FR AR FI1 AI) : zMet M_X9_go [zR 100] T FR AR FI AI Post := by
  subst eb
  obtain ⟨a1, a2, a3, a4, a5, a6, a7, a8⟩ := hA
  have e := a4 hk
  have hN := tN_b hk
  refine s_X9_go hL a1 hn2 a7 (by omega) hb (fun FI1 h g => hp FI1 h ?_)
  rw [← e]
  exact g
set_option maxRecDepth 20000 in
theorem s_X9_told {T : zTt} {FR : zFR} {AR : zAR} {FI : zFI} {AI : zAI} {Post : zPost} {b : Int → Int} {n p : Int} {at1 lo hi : Int} (hL : mLay T FR) (eb : AI 101 = b) (hb : ∀ i : Int, 0 ≤ b i ∧ b i ≤ 255) (hn2 : n ≤ 640) (hA : tAt FI b n p) (g0 : 0 ≤ at1) (g1 : at1 < 1395) (hO : sNum b n p lo hi → ∀ FI1 : zFI, zFo FI FI1 → tAt FI1 b n (tN b n p) → Post (zI 1) T FR AR FI1 (zsA AI 112 at1 (tV b n p))) (hB : ¬ sNum b n p lo hi → ∀ FI1 : zFI, zFt FI FI1 → FI1 100 8 = (if tK b n p = 3 then 2 else 1) → FI1 100 9 = tP b n p → Post (zI 0) T FR AR FI1 AI)  : zMet M_X9_told [zR 100, zI at1, zI lo, zI hi] T FR AR FI AI Post := by
  refine zMet.of [some (zR 100), some (zI at1), some (zI lo), some (zI hi)] rfl rfl rfl (fun G C => ?_)
  have hs := hA.sort
  have h7 := hA.2.2.2.2.1
  refine zv_aload_n C dX9_told_0 rfl rfl ?_
  refine zv_getI C dX9_told_1 f_X9_27 hL.1 rfl ?_
  refine zv_iconst C dX9_told_4 rfl ?_
  refine zv_icmp_eq C 14 dX9_told_5 rfl (fun h5 => ?_) (fun h5 => ?_)
  · refine zv_aload_n C dX9_told_14 rfl rfl ?_
    refine zv_getI C dX9_told_15 f_X9_41 hL.1 rfl ?_
    refine zv_iload_n C dX9_told_18 rfl ?_
    refine zv_iload_n C dX9_told_19 rfl ?_
    refine zv_cSi0_3 C dX9_told_20 k_X9_isIn l_X9_113 ⟨Nat.le_of_ble_eq_true rfl, Nat.le_of_ble_eq_true rfl⟩ ⟨rfl, rfl⟩ ⟨Nat.le_of_ble_eq_true rfl, Nat.le_of_ble_eq_true rfl⟩ rfl rfl ?_
    refine s_X9_isIn (fun b20 => ?_) (fun b20 => ?_)
    · refine zv_if_ne C 32 dX9_told_23 rfl (fun _ => ?_) (fun h => absurd h (by omega))
      refine zv_aload_n C dX9_told_32 rfl rfl ?_
      refine zv_getR C dX9_told_33 f_X9_77 hL.1 rfl hL.2.2.2.2.2.2.2.2.2.2.2.2.2.2.2.2.1 ?_
      refine zv_iload_n C dX9_told_36 rfl ?_
      refine zv_aload_n C dX9_told_37 rfl rfl ?_
      refine zv_getI C dX9_told_38 f_X9_41 hL.1 rfl ?_
      refine zv_iastore C dX9_told_41 hL.2.2.2.1 ⟨by omega, by omega⟩ ?_
      rw [h7 (by omega)]
      refine zv_aload_n C dX9_told_42 rfl rfl ?_
      refine zv_cVv0_0 C dX9_told_43 k_X9_go l_X9_117 hL.1 rfl ⟨Nat.le_of_ble_eq_true rfl, Nat.le_of_ble_eq_true rfl⟩ ⟨rfl, rfl⟩ ⟨Nat.le_of_ble_eq_true rfl, Nat.le_of_ble_eq_true rfl⟩ rfl rfl ?_
      refine s2_go hL (by rw [zsA_neF (by decide)]; exact eb) hb hn2 hA (by omega) (fun FI1 h g => ?_)
      refine zv_iconst C dX9_told_46 rfl ?_
      refine zv_ireturn C dX9_told_47 rfl rfl rfl rfl ?_
      exact hO ⟨by omega, by rw [← h7 (by omega)]; omega, by rw [← h7 (by omega)]; omega⟩ FI1 h.o g
    · refine zv_if_ne C 32 dX9_told_23 rfl (fun h => absurd h (by omega)) (fun _ => ?_)
      refine zv_aload_n C dX9_told_26 rfl rfl ?_
      refine zv_iconst C dX9_told_27 rfl ?_
      refine zv_cVi0_1 C dX9_told_28 k_X9_bad l_X9_110 hL.1 rfl ⟨Nat.le_of_ble_eq_true rfl, Nat.le_of_ble_eq_true rfl⟩ ⟨rfl, rfl⟩ ⟨Nat.le_of_ble_eq_true rfl, Nat.le_of_ble_eq_true rfl⟩ rfl rfl ?_
      refine s_X9_bad hL ?_
      refine zv_ireturn C dX9_told_31 rfl rfl rfl rfl ?_
      refine hB (fun z => by have z1 := z.2; rw [← h7 (by omega)] at z1; omega) _ ((zFt.rfl.set (by decide)).set (by decide)) ?_ ?_
      · rw [zsF_ne (by decide), zsF_eq]
        split <;> split <;> omega
      · rw [zsF_eq]; exact hA.2.1
  · refine zv_aload_n C dX9_told_8 rfl rfl ?_
    refine zv_iconst C dX9_told_9 rfl ?_
    refine zv_cVi0_1 C dX9_told_10 k_X9_bad l_X9_110 hL.1 rfl ⟨Nat.le_of_ble_eq_true rfl, Nat.le_of_ble_eq_true rfl⟩ ⟨rfl, rfl⟩ ⟨Nat.le_of_ble_eq_true rfl, Nat.le_of_ble_eq_true rfl⟩ rfl rfl ?_
    refine s_X9_bad hL ?_
    refine zv_ireturn C dX9_told_13 rfl rfl rfl rfl ?_
    refine hB (fun z => by have z1 := z.1; omega) _ ((zFt.rfl.set (by decide)).set (by decide)) ?_ ?_
    · rw [zsF_ne (by decide), zsF_eq]
      split <;> split <;> omega
    · rw [zsF_eq]; exact hA.2.1
set_option maxRecDepth 20000 in
theorem s_X9_takes {T : zTt} {FR : zFR} {AR : zAR} {FI : zFI} {AI : zAI} {Post : zPost} {b : Int → Int} {n p : Int} {lo hi : Int} (hL : mLay T FR) (eb : AI 101 = b) (hb : ∀ i : Int, 0 ≤ b i ∧ b i ≤ 255) (hn2 : n ≤ 640) (hA : tAt FI b n p) (hO : sNum b n p lo hi → ∀ FI1 : zFI, zFo FI FI1 → FI1 100 15 = tV b n p → tAt FI1 b n (tN b n p) → Post (zI 1) T FR AR FI1 AI) (hB : ¬ sNum b n p lo hi → ∀ FI1 : zFI, zFt FI FI1 → FI1 100 8 = (if tK b n p = 3 then 2 else 1) → FI1 100 9 = tP b n p → Post (zI 0) T FR AR FI1 AI)  : zMet M_X9_takes [zR 100, zI lo, zI hi] T FR AR FI AI Post := by
  refine zMet.of [some (zR 100), some (zI lo), some (zI hi)] rfl rfl rfl (fun G C => ?_)
  have hs := hA.sort
  have h7 := hA.2.2.2.2.1
  refine zv_aload_n C dX9_takes_0 rfl rfl ?_
  refine zv_getI C dX9_takes_1 f_X9_27 hL.1 rfl ?_
  refine zv_iconst C dX9_takes_4 rfl ?_
  refine zv_icmp_eq C 14 dX9_takes_5 rfl (fun h5 => ?_) (fun h5 => ?_)
  · refine zv_aload_n C dX9_takes_14 rfl rfl ?_
    refine zv_getI C dX9_takes_15 f_X9_41 hL.1 rfl ?_
    refine zv_iload_n C dX9_takes_18 rfl ?_
    refine zv_iload_n C dX9_takes_19 rfl ?_
    refine zv_cSi0_3 C dX9_takes_20 k_X9_isIn l_X9_113 ⟨Nat.le_of_ble_eq_true rfl, Nat.le_of_ble_eq_true rfl⟩ ⟨rfl, rfl⟩ ⟨Nat.le_of_ble_eq_true rfl, Nat.le_of_ble_eq_true rfl⟩ rfl rfl ?_
    refine s_X9_isIn (fun b20 => ?_) (fun b20 => ?_)
    · refine zv_if_ne C 32 dX9_takes_23 rfl (fun _ => ?_) (fun h => absurd h (by omega))
      refine zv_aload_n C dX9_takes_32 rfl rfl ?_
      refine zv_aload_n C dX9_takes_33 rfl rfl ?_
      refine zv_getI C dX9_takes_34 f_X9_41 hL.1 rfl ?_
      refine zv_putI C dX9_takes_37 f_X9_120 hL.1 rfl ?_
      rw [h7 (by omega)]
      refine zv_aload_n C dX9_takes_40 rfl rfl ?_
      refine zv_cVv0_0 C dX9_takes_41 k_X9_go l_X9_117 hL.1 rfl ⟨Nat.le_of_ble_eq_true rfl, Nat.le_of_ble_eq_true rfl⟩ ⟨rfl, rfl⟩ ⟨Nat.le_of_ble_eq_true rfl, Nat.le_of_ble_eq_true rfl⟩ rfl rfl ?_
      refine s2_go hL eb hb hn2 (hA.set (by decide)) (by omega) (fun FI1 h g => ?_)
      refine zv_iconst C dX9_takes_44 rfl ?_
      refine zv_ireturn C dX9_takes_45 rfl rfl rfl rfl ?_
      refine hO ⟨by omega, by rw [← h7 (by omega)]; omega, by rw [← h7 (by omega)]; omega⟩ FI1 (zFo.rfl.set15.trans h.o) ?_ g
      rw [h 100 15 (by decide), zsF_eq]
    · refine zv_if_ne C 32 dX9_takes_23 rfl (fun h => absurd h (by omega)) (fun _ => ?_)
      refine zv_aload_n C dX9_takes_26 rfl rfl ?_
      refine zv_iconst C dX9_takes_27 rfl ?_
      refine zv_cVi0_1 C dX9_takes_28 k_X9_bad l_X9_110 hL.1 rfl ⟨Nat.le_of_ble_eq_true rfl, Nat.le_of_ble_eq_true rfl⟩ ⟨rfl, rfl⟩ ⟨Nat.le_of_ble_eq_true rfl, Nat.le_of_ble_eq_true rfl⟩ rfl rfl ?_
      refine s_X9_bad hL ?_
      refine zv_ireturn C dX9_takes_31 rfl rfl rfl rfl ?_
      refine hB (fun z => by have z1 := z.2; rw [← h7 (by omega)] at z1; omega) _ ((zFt.rfl.set (by decide)).set (by decide)) ?_ ?_
      · rw [zsF_ne (by decide), zsF_eq]
        split <;> split <;> omega
      · rw [zsF_eq]; exact hA.2.1
  · refine zv_aload_n C dX9_takes_8 rfl rfl ?_
    refine zv_iconst C dX9_takes_9 rfl ?_
    refine zv_cVi0_1 C dX9_takes_10 k_X9_bad l_X9_110 hL.1 rfl ⟨Nat.le_of_ble_eq_true rfl, Nat.le_of_ble_eq_true rfl⟩ ⟨rfl, rfl⟩ ⟨Nat.le_of_ble_eq_true rfl, Nat.le_of_ble_eq_true rfl⟩ rfl rfl ?_
    refine s_X9_bad hL ?_
    refine zv_ireturn C dX9_takes_13 rfl rfl rfl rfl ?_
    refine hB (fun z => by have z1 := z.1; omega) _ ((zFt.rfl.set (by decide)).set (by decide)) ?_ ?_
    · rw [zsF_ne (by decide), zsF_eq]
      split <;> split <;> omega
    · rw [zsF_eq]; exact hA.2.1
set_option maxRecDepth 20000 in
theorem s_X9_readEnd {T : zTt} {FR : zFR} {AR : zAR} {FI : zFI} {AI : zAI} {Post : zPost} {b : Int → Int} {n p : Int} (hL : mLay T FR) (eb : AI 101 = b) (hb : ∀ i : Int, 0 ≤ b i ∧ b i ≤ 255) (hn2 : n ≤ 640) (hA : tAt FI b n p) (hO : tK b n p = 4 → ∀ FI1 : zFI, zFo FI FI1 → tAt FI1 b n (tN b n p) → Post (zI 1) T FR AR FI1 AI) (hB : tK b n p ≠ 4 → ∀ FI1 : zFI, zFt FI FI1 → FI1 100 8 = 1 → FI1 100 9 = tP b n p → Post (zI 0) T FR AR FI1 AI) : zMet M_X9_readEnd [zR 100] T FR AR FI AI Post := by
  refine zMet.of [some (zR 100)] rfl rfl rfl (fun G C => ?_)
  have hs := hA.sort
  refine zv_aload_n C dX9_readEnd_0 rfl rfl ?_
  refine zv_getI C dX9_readEnd_1 f_X9_27 hL.1 rfl ?_
  refine zv_iconst C dX9_readEnd_4 rfl ?_
  refine zv_icmp_eq C 14 dX9_readEnd_5 rfl (fun h5 => ?_) (fun h5 => ?_)
  · refine zv_aload_n C dX9_readEnd_14 rfl rfl ?_
    refine zv_cVv0_0 C dX9_readEnd_15 k_X9_go l_X9_117 hL.1 rfl ⟨Nat.le_of_ble_eq_true rfl, Nat.le_of_ble_eq_true rfl⟩ ⟨rfl, rfl⟩ ⟨Nat.le_of_ble_eq_true rfl, Nat.le_of_ble_eq_true rfl⟩ rfl rfl ?_
    refine s2_go hL eb hb hn2 hA (by omega) (fun FI1 h g => ?_)
    refine zv_iconst C dX9_readEnd_18 rfl ?_
    refine zv_ireturn C dX9_readEnd_19 rfl rfl rfl rfl ?_
    exact hO (by omega) FI1 h.o g
  · refine zv_aload_n C dX9_readEnd_8 rfl rfl ?_
    refine zv_iconst C dX9_readEnd_9 rfl ?_
    refine zv_cVi0_1 C dX9_readEnd_10 k_X9_bad l_X9_110 hL.1 rfl ⟨Nat.le_of_ble_eq_true rfl, Nat.le_of_ble_eq_true rfl⟩ ⟨rfl, rfl⟩ ⟨Nat.le_of_ble_eq_true rfl, Nat.le_of_ble_eq_true rfl⟩ rfl rfl ?_
    refine s_X9_bad hL ?_
    refine zv_ireturn C dX9_readEnd_13 rfl rfl rfl rfl ?_
    refine hB (by omega) _ ((zFt.rfl.set (by decide)).set (by decide)) ?_ ?_
    · rw [zsF_ne (by decide), zsF_eq]
      split <;> rfl
    · rw [zsF_eq]; exact hA.2.1
set_option maxRecDepth 20000 in
theorem s_X9_isOfficeWord {T : zTt} {FR : zFR} {AR : zAR} {FI : zFI} {AI : zAI} {Post : zPost} {b : Int → Int} {n p : Int} (hL : mLay T FR) (hA : tAt FI b n p) (h1 : zKw b n p 1 → Post (zI 1) T FR AR FI AI) (h0 : ¬ zKw b n p 1 → Post (zI 0) T FR AR FI AI) : zMet M_X9_isOfficeWord [zR 100] T FR AR FI AI Post := by
  refine zMet.of [some (zR 100)] rfl rfl rfl (fun G C => ?_)
  refine zv_aload_n C dX9_isOfficeWord_0 rfl rfl ?_
  refine zv_bipush C dX9_isOfficeWord_1 rfl ?_
  refine zv_bipush C dX9_isOfficeWord_3 rfl ?_
  refine zv_bipush C dX9_isOfficeWord_5 rfl ?_
  refine zv_bipush C dX9_isOfficeWord_7 rfl ?_
  refine zv_bipush C dX9_isOfficeWord_9 rfl ?_
  refine zv_bipush C dX9_isOfficeWord_11 rfl ?_
  refine zv_cSi0_6 C dX9_isOfficeWord_13 k_X9_six l_X9_123 ⟨Nat.le_of_ble_eq_true rfl, Nat.le_of_ble_eq_true rfl⟩ ⟨rfl, rfl⟩ ⟨Nat.le_of_ble_eq_true rfl, Nat.le_of_ble_eq_true rfl⟩ rfl rfl ?_
  refine s_X9_six (by decide) (by decide) (by decide) (by decide) (by decide) (by decide) ?_
  refine zv_cVi0_1 C dX9_isOfficeWord_16 k_X9_isWord l_X9_127 hL.1 rfl ⟨Nat.le_of_ble_eq_true rfl, Nat.le_of_ble_eq_true rfl⟩ ⟨rfl, rfl⟩ ⟨Nat.le_of_ble_eq_true rfl, Nat.le_of_ble_eq_true rfl⟩ rfl rfl ?_
  refine s_X9_isWord hL hA 1 (by decide) (by decide) (fun b16 => ?_) (fun b16 => ?_)
  · refine zv_ireturn C dX9_isOfficeWord_19 rfl rfl rfl rfl ?_
    exact h1 b16
  · refine zv_ireturn C dX9_isOfficeWord_19 rfl rfl rfl rfl ?_
    exact h0 b16
