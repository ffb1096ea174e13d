set_option maxRecDepth 20000 in
theorem s_X9_closing {T : zTt} {FR : zFR} {AR : zAR} {FI : zFI} {AI : zAI} {Post : zPost} {o y what : Int} {nI nL : Nat}  (hL : mLay T FR) (hW : mW (AI 111) nI nL) (hC : mCl (AI 111)) (hp : Post (zI (aClo (AI 111) o y what)) T FR AR (zsF FI 100 0 0) AI) : zMet M_X9_closing [zR 100, zI o, zI y, zI what] T FR AR FI AI Post := by
  refine zMet.of [some (zR 100), some (zI o), some (zI y), some (zI what), none] rfl rfl rfl (fun G C => ?_)
  obtain ⟨w0, w1, w2, w3, w4, w5, w6, w7, w8, w9⟩ := id hW
  refine zv_aload_n C dX9_closing_0 rfl rfl ?_
  refine zv_iconst C dX9_closing_1 rfl ?_
  refine zv_putI C dX9_closing_2 f_X9_1 hL.1 rfl ?_
  refine zv_aload_n C dX9_closing_5 rfl rfl ?_
  refine zv_iload_n C dX9_closing_6 rfl ?_
  refine zv_cVi0_1 C dX9_closing_7 k_X9_isOffice l_X9_244 hL.1 rfl ⟨Nat.le_of_ble_eq_true rfl, Nat.le_of_ble_eq_true rfl⟩ ⟨rfl, rfl⟩ ⟨Nat.le_of_ble_eq_true rfl, Nat.le_of_ble_eq_true rfl⟩ rfl rfl ?_
  refine s_X9_isOffice hL ⟨by omega, by omega⟩ (fun b7 => ?_) (fun b7 => ?_)
  · refine zv_if_eq C 39 dX9_closing_10 rfl (fun h => absurd h (by omega)) (fun _ => ?_)
    refine zv_iload_n C dX9_closing_13 rfl ?_
    refine zv_iconst C dX9_closing_14 rfl ?_
    refine zv_aload_n C dX9_closing_15 rfl rfl ?_
    refine zv_getR C dX9_closing_16 f_X9_74 hL.1 rfl hL.2.2.2.2.2.2.2.2.2.2.2.2.2.2.2.1 ?_
    refine zv_iconst C dX9_closing_19 rfl ?_
    refine zv_iaload C dX9_closing_20 hL.2.2.1 ⟨by omega, by omega⟩ ?_
    refine zv_iconst C dX9_closing_21 rfl ?_
    refine zv_isub C dX9_closing_22 ⟨by omega, by omega⟩ ?_
    refine zv_cSi0_3 C dX9_closing_23 k_X9_isIn l_X9_113 ⟨Nat.le_of_ble_eq_true rfl, Nat.le_of_ble_eq_true rfl⟩ ⟨rfl, rfl⟩ ⟨Nat.le_of_ble_eq_true rfl, Nat.le_of_ble_eq_true rfl⟩ rfl rfl ?_
    refine s_X9_isIn (fun b23 => ?_) (fun b23 => ?_)
    · refine zv_if_eq C 39 dX9_closing_26 rfl (fun h => absurd h (by omega)) (fun _ => ?_)
      refine zv_iload_n C dX9_closing_29 rfl ?_
      refine zv_iconst C dX9_closing_30 rfl ?_
      refine zv_bipush C dX9_closing_31 rfl ?_
      refine zv_cSi0_3 C dX9_closing_33 k_X9_isIn l_X9_113 ⟨Nat.le_of_ble_eq_true rfl, Nat.le_of_ble_eq_true rfl⟩ ⟨rfl, rfl⟩ ⟨Nat.le_of_ble_eq_true rfl, Nat.le_of_ble_eq_true rfl⟩ rfl rfl ?_
      refine s_X9_isIn (fun b33 => ?_) (fun b33 => ?_)
      · refine zv_if_ne C 43 dX9_closing_36 rfl (fun _ => ?_) (fun h => absurd h (by omega))
        refine zv_iload_n C dX9_closing_43 rfl ?_
        refine zv_iload_n C dX9_closing_44 rfl ?_
        refine zv_cSi0_2 C dX9_closing_45 k_X9_closingAt l_X9_257 ⟨Nat.le_of_ble_eq_true rfl, Nat.le_of_ble_eq_true rfl⟩ ⟨rfl, rfl⟩ ⟨Nat.le_of_ble_eq_true rfl, Nat.le_of_ble_eq_true rfl⟩ rfl rfl ?_
        refine s_X9_closingAt (by omega) (by omega) (by omega) (by omega) ?_
        refine zv_istore_4 C dX9_closing_48 rfl rfl ?_
        refine zv_iload_n C dX9_closing_50 rfl ?_
        refine zv_iconst C dX9_closing_51 rfl ?_
        refine zv_icmp_ge C 65 dX9_closing_52 rfl (fun h52 => ?_) (fun h52 => ?_)
        · refine zv_iload_n C dX9_closing_65 rfl ?_
          refine zv_iconst C dX9_closing_66 rfl ?_
          refine zv_icmp_ne C 92 dX9_closing_67 rfl (fun h67 => ?_) (fun h67 => ?_)
          · refine zv_aload_n C dX9_closing_92 rfl rfl ?_
            refine zv_getR C dX9_closing_93 f_X9_74 hL.1 rfl hL.2.2.2.2.2.2.2.2.2.2.2.2.2.2.2.1 ?_
            refine zv_iload C dX9_closing_96 rfl ?_
            refine zv_iconst C dX9_closing_98 rfl ?_
            refine zv_iadd C dX9_closing_99 ⟨by omega, by omega⟩ ?_
            refine zv_iaload C dX9_closing_100 hL.2.2.1 ⟨by omega, by omega⟩ ?_
            refine zv_ireturn C dX9_closing_101 rfl rfl rfl rfl ?_
            refine zpost ?_ hp
            unfold aClo
            first
            | rw [if_neg (by omega)]
            | (rw [if_pos ⟨by omega, by omega, by omega⟩]
               repeat (first | rw [if_pos (by omega)] | rw [if_neg (by omega)])
               all_goals (first | (exfalso; omega) | (congr 1; omega)))
          · refine zv_aload_n C dX9_closing_70 rfl rfl ?_
            refine zv_getR C dX9_closing_71 f_X9_74 hL.1 rfl hL.2.2.2.2.2.2.2.2.2.2.2.2.2.2.2.1 ?_
            refine zv_iload C dX9_closing_74 rfl ?_
            refine zv_iconst C dX9_closing_76 rfl ?_
            refine zv_iadd C dX9_closing_77 ⟨by omega, by omega⟩ ?_
            refine zv_iaload C dX9_closing_78 hL.2.2.1 ⟨by omega, by omega⟩ ?_
            refine zv_aload_n C dX9_closing_79 rfl rfl ?_
            refine zv_getR C dX9_closing_80 f_X9_74 hL.1 rfl hL.2.2.2.2.2.2.2.2.2.2.2.2.2.2.2.1 ?_
            refine zv_iload C dX9_closing_83 rfl ?_
            refine zv_iconst C dX9_closing_85 rfl ?_
            refine zv_iadd C dX9_closing_86 ⟨by omega, by omega⟩ ?_
            refine zv_iaload C dX9_closing_87 hL.2.2.1 ⟨by omega, by omega⟩ ?_
            have k1 := hC.1 (435 + 240 * o + 6 * y + 3) (by omega) (by omega)
            have k2 := hC.1 (435 + 240 * o + 6 * y + 4) (by omega) (by omega)
            refine zv_isub C dX9_closing_88 ⟨by omega, by omega⟩ ?_
            refine zv_goto C 101 dX9_closing_89 rfl ?_
            refine zv_ireturn C dX9_closing_101 rfl rfl rfl rfl ?_
            refine zpost ?_ hp
            unfold aClo
            first
            | rw [if_neg (by omega)]
            | (rw [if_pos ⟨by omega, by omega, by omega⟩]
               repeat (first | rw [if_pos (by omega)] | rw [if_neg (by omega)])
               all_goals (first | (exfalso; omega) | (congr 1; omega)))
        · refine zv_aload_n C dX9_closing_55 rfl rfl ?_
          refine zv_getR C dX9_closing_56 f_X9_74 hL.1 rfl hL.2.2.2.2.2.2.2.2.2.2.2.2.2.2.2.1 ?_
          refine zv_iload C dX9_closing_59 rfl ?_
          refine zv_iload_n C dX9_closing_61 rfl ?_
          refine zv_iadd C dX9_closing_62 ⟨by omega, by omega⟩ ?_
          refine zv_iaload C dX9_closing_63 hL.2.2.1 ⟨by omega, by omega⟩ ?_
          refine zv_ireturn C dX9_closing_64 rfl rfl rfl rfl ?_
          refine zpost ?_ hp
          unfold aClo
          first
          | rw [if_neg (by omega)]
          | (rw [if_pos ⟨by omega, by omega, by omega⟩]
             repeat (first | rw [if_pos (by omega)] | rw [if_neg (by omega)])
             all_goals (first | (exfalso; omega) | (congr 1; omega)))
      · refine zv_if_ne C 43 dX9_closing_36 rfl (fun h => absurd h (by omega)) (fun _ => ?_)
        refine zv_ldcw (x := -100000000) C dX9_closing_39 c_X9_256 rfl ?_
        refine zv_ireturn C dX9_closing_42 rfl rfl rfl rfl ?_
        refine zpost ?_ hp
        unfold aClo
        first
        | rw [if_neg (by omega)]
        | (rw [if_pos ⟨by omega, by omega, by omega⟩]
           repeat (first | rw [if_pos (by omega)] | rw [if_neg (by omega)])
           all_goals (first | (exfalso; omega) | (congr 1; omega)))
    · refine zv_if_eq C 39 dX9_closing_26 rfl (fun _ => ?_) (fun h => absurd h (by omega))
      refine zv_ldcw (x := -100000000) C dX9_closing_39 c_X9_256 rfl ?_
      refine zv_ireturn C dX9_closing_42 rfl rfl rfl rfl ?_
      refine zpost ?_ hp
      unfold aClo
      first
      | rw [if_neg (by omega)]
      | (rw [if_pos ⟨by omega, by omega, by omega⟩]
         repeat (first | rw [if_pos (by omega)] | rw [if_neg (by omega)])
         all_goals (first | (exfalso; omega) | (congr 1; omega)))
  · refine zv_if_eq C 39 dX9_closing_10 rfl (fun _ => ?_) (fun h => absurd h (by omega))
    refine zv_ldcw (x := -100000000) C dX9_closing_39 c_X9_256 rfl ?_
    refine zv_ireturn C dX9_closing_42 rfl rfl rfl rfl ?_
    refine zpost ?_ hp
    unfold aClo
    first
    | rw [if_neg (by omega)]
    | (rw [if_pos ⟨by omega, by omega, by omega⟩]
       repeat (first | rw [if_pos (by omega)] | rw [if_neg (by omega)])
       all_goals (first | (exfalso; omega) | (congr 1; omega)))
set_option maxRecDepth 20000 in
theorem s_X9_isEnough {T : zTt} {FR : zFR} {AR : zAR} {FI : zFI} {AI : zAI} {Post : zPost} {o y more : Int} {nI nL : Nat}  (hL : mLay T FR) (hW : mW (AI 111) nI nL) (g0 : 0 ≤ o) (g1 : o < 3) (g2 : 0 ≤ more) (g3 : more ≤ 99999) (h1 : ∀ A1, zFr AI A1 → enough (AI 111) nI nL o y more → Post (zI 1) T FR AR FI A1) (h0 : ∀ A1, zFr AI A1 → ¬ enough (AI 111) nI nL o y more → Post (zI 0) T FR AR FI A1) : zMet M_X9_isEnough [zR 100, zI o, zI y, zI more] T FR AR FI AI Post := by
  refine zMet.of [some (zR 100), some (zI o), some (zI y), some (zI more)] rfl rfl rfl (fun G C => ?_)
  refine zv_aload_n C dX9_isEnough_0 rfl rfl ?_
  refine zv_iload_n C dX9_isEnough_1 rfl ?_
  refine zv_iload_n C dX9_isEnough_2 rfl ?_
  refine zv_iload_n C dX9_isEnough_3 rfl ?_
  refine zv_cVv0_3 C dX9_isEnough_4 k_X9_sweeps l_X9_219 hL.1 rfl ⟨Nat.le_of_ble_eq_true rfl, Nat.le_of_ble_eq_true rfl⟩ ⟨rfl, rfl⟩ ⟨Nat.le_of_ble_eq_true rfl, Nat.le_of_ble_eq_true rfl⟩ rfl rfl ?_
  refine s_X9_sweeps hL hW g0 g1 g2 g3 (fun A1 s hs hI => ?_)
  refine zv_aload_n C dX9_isEnough_7 rfl rfl ?_
  refine zv_iload_n C dX9_isEnough_8 rfl ?_
  refine zv_cVi0_1 C dX9_isEnough_9 k_X9_unrecognised l_X9_229 hL.1 rfl ⟨Nat.le_of_ble_eq_true rfl, Nat.le_of_ble_eq_true rfl⟩ ⟨rfl, rfl⟩ ⟨Nat.le_of_ble_eq_true rfl, Nat.le_of_ble_eq_true rfl⟩ rfl rfl ?_
  refine s_X9_unrecognised hL hW hI hs g0 g1 g2 g3 ?_
  refine zv_if_ne C 19 dX9_isEnough_12 rfl (fun h12 => ?_) (fun h12 => ?_)
  · refine zv_iconst C dX9_isEnough_19 rfl ?_
    refine zv_ireturn C dX9_isEnough_20 rfl rfl rfl rfl ?_
    exact h0 A1 hI.1 (by unfold enough; omega)
  · refine zv_iconst C dX9_isEnough_15 rfl ?_
    refine zv_goto C 20 dX9_isEnough_16 rfl ?_
    refine zv_ireturn C dX9_isEnough_20 rfl rfl rfl rfl ?_
    exact h1 A1 hI.1 (by unfold enough; omega)
set_option maxRecDepth 20000 in
theorem s_X9_needs {T : zTt} {FR : zFR} {AR : zAR} {FI : zFI} {AI : zAI} {Post : zPost} {o y : Int} {nI nL : Nat}  (hL : mLay T FR) (hW : mW (AI 111) nI nL) (hn : ¬ ((0 ≤ o ∧ o ≤ AI 111 2 - 1) ∧ (AI 111 0 + 1 ≤ y ∧ y ≤ 39)) → Post (zI (-1)) T FR AR (zsF FI 100 0 0) AI) (h2 : (0 ≤ o ∧ o ≤ AI 111 2 - 1) → (AI 111 0 + 1 ≤ y ∧ y ≤ 39) → ∀ A1, zFr2 AI A1 → ¬ enough (AI 111) nI nL o y 99999 → Post (zI (-2)) T FR AR (zsF FI 100 0 0) A1) (hp : (0 ≤ o ∧ o ≤ AI 111 2 - 1) → (AI 111 0 + 1 ≤ y ∧ y ≤ 39) → ∀ A1, zFr2 AI A1 → ∀ r : Int, 0 ≤ r → r ≤ 99999 → enough (AI 111) nI nL o y r → (r = 0 ∨ ¬ enough (AI 111) nI nL o y (r - 1)) → Post (zI r) T FR AR (zsF FI 100 0 0) A1) : zMet M_X9_needs [zR 100, zI o, zI y] T FR AR FI AI Post := by
  refine zMet.of [some (zR 100), some (zI o), some (zI y), none, none, none] rfl rfl rfl (fun G C => ?_)
  obtain ⟨w0, w1, w2, w3, w4, w5, w6, w7, w8, w9⟩ := id hW
  suffices lp : (0 ≤ o ∧ o ≤ AI 111 2 - 1) → (AI 111 0 + 1 ≤ y ∧ y ≤ 39) → ∀ (d : Nat) (lo hi : Int) (a5 : Option zVal) (A1 : zAI), (hi - lo).toNat ≤ d → 0 ≤ lo → lo ≤ hi → hi ≤ 99999 → zFr2 AI A1 → enough (AI 111) nI nL o y hi → (lo = 0 ∨ ¬ enough (AI 111) nI nL o y (lo - 1)) → zV G 43 [some (zR 100), some (zI o), some (zI y), some (zI lo), some (zI hi), a5] [] T FR AR (zsF FI 100 0 0) A1 0 0 from by
    refine zv_aload_n C dX9_needs_0 rfl rfl ?_
    refine zv_iconst C dX9_needs_1 rfl ?_
    refine zv_putI C dX9_needs_2 f_X9_1 hL.1 rfl ?_
    refine zv_aload_n C dX9_needs_5 rfl rfl ?_
    refine zv_iload_n C dX9_needs_6 rfl ?_
    refine zv_cVi0_1 C dX9_needs_7 k_X9_isOffice l_X9_244 hL.1 rfl ⟨Nat.le_of_ble_eq_true rfl, Nat.le_of_ble_eq_true rfl⟩ ⟨rfl, rfl⟩ ⟨Nat.le_of_ble_eq_true rfl, Nat.le_of_ble_eq_true rfl⟩ rfl rfl ?_
    refine s_X9_isOffice hL ⟨by omega, by omega⟩ (fun b7 => ?_) (fun b7 => ?_)
    · refine zv_if_eq C 21 dX9_needs_10 rfl (fun h => absurd h (by omega)) (fun _ => ?_)
      refine zv_aload_n C dX9_needs_13 rfl rfl ?_
      refine zv_iload_n C dX9_needs_14 rfl ?_
      refine zv_cVi0_1 C dX9_needs_15 k_X9_isAhead l_X9_250 hL.1 rfl ⟨Nat.le_of_ble_eq_true rfl, Nat.le_of_ble_eq_true rfl⟩ ⟨rfl, rfl⟩ ⟨Nat.le_of_ble_eq_true rfl, Nat.le_of_ble_eq_true rfl⟩ rfl rfl ?_
      refine s_X9_isAhead hL ⟨by omega, by omega⟩ (fun b15 => ?_) (fun b15 => ?_)
      · refine zv_if_ne C 23 dX9_needs_18 rfl (fun _ => ?_) (fun h => absurd h (by omega))
        refine zv_aload_n C dX9_needs_23 rfl rfl ?_
        refine zv_iload_n C dX9_needs_24 rfl ?_
        refine zv_iload_n C dX9_needs_25 rfl ?_
        refine zv_ldc (x := 99999) C dX9_needs_26 c_X9_146 rfl ?_
        refine zv_cVi0_3 C dX9_needs_28 k_X9_isEnough l_X9_263 hL.1 rfl ⟨Nat.le_of_ble_eq_true rfl, Nat.le_of_ble_eq_true rfl⟩ ⟨rfl, rfl⟩ ⟨Nat.le_of_ble_eq_true rfl, Nat.le_of_ble_eq_true rfl⟩ rfl rfl ?_
        refine s_X9_isEnough hL hW (by omega) (by omega) (by omega) (by omega) (fun A2 hA2 he => ?_) (fun A2 hA2 he => ?_)
        · refine zv_if_ne C 37 dX9_needs_31 rfl (fun _ => ?_) (fun h => absurd h (by omega))
          refine zv_iconst C dX9_needs_37 rfl ?_
          refine zv_istore_3 C dX9_needs_38 rfl rfl ?_
          refine zv_ldc (x := 99999) C dX9_needs_39 c_X9_146 rfl ?_
          refine zv_istore_4 C dX9_needs_41 rfl rfl ?_
          exact lp (by omega) (by omega) 99999 0 99999 none A2 (by omega) (by omega) (by omega) (by omega) hA2.two he (Or.inl rfl)
        · refine zv_if_ne C 37 dX9_needs_31 rfl (fun h => absurd h (by omega)) (fun _ => ?_)
          refine zv_bipush C dX9_needs_34 rfl ?_
          refine zv_ireturn C dX9_needs_36 rfl rfl rfl rfl ?_
          exact h2 ⟨by omega, by omega⟩ ⟨by omega, by omega⟩ A2 hA2.two he
      · refine zv_if_ne C 23 dX9_needs_18 rfl (fun h => absurd h (by omega)) (fun _ => ?_)
        refine zv_iconst C dX9_needs_21 rfl ?_
        refine zv_ireturn C dX9_needs_22 rfl rfl rfl rfl ?_
        exact hn (by omega)
    · refine zv_if_eq C 21 dX9_needs_10 rfl (fun _ => ?_) (fun h => absurd h (by omega))
      refine zv_iconst C dX9_needs_21 rfl ?_
      refine zv_ireturn C dX9_needs_22 rfl rfl rfl rfl ?_
      exact hn (by omega)
  intro ho hy d
  induction d with
  | zero =>
    intro lo hi a5 A1 hd h0 h1 h3 hA he hl
    refine zv_iload_n C dX9_needs_43 rfl ?_
    refine zv_iload C dX9_needs_44 rfl ?_
    refine zv_icmp_ge C 83 dX9_needs_46 rfl (fun h46 => ?_) (fun h46 => absurd h46 (by omega))
    refine zv_iload_n C dX9_needs_83 rfl ?_
    refine zv_ireturn C dX9_needs_84 rfl rfl rfl rfl ?_
    have e : lo = hi := by omega
    subst e
    exact hp ho hy A1 hA lo (by omega) (by omega) he hl
  | succ d ih =>
    intro lo hi a5 A1 hd h0 h1 h3 hA he hl
    have e111 : A1 111 = AI 111 := hA 111 (by decide)
    refine zv_iload_n C dX9_needs_43 rfl ?_
    refine zv_iload C dX9_needs_44 rfl ?_
    refine zv_icmp_ge C 83 dX9_needs_46 rfl (fun h46 => ?_) (fun h46 => ?_)
    · refine zv_iload_n C dX9_needs_83 rfl ?_
      refine zv_ireturn C dX9_needs_84 rfl rfl rfl rfl ?_
      have e : lo = hi := by omega
      subst e
      exact hp ho hy A1 hA lo (by omega) (by omega) he hl
    · refine zv_iload_n C dX9_needs_49 rfl ?_
      refine zv_iload C dX9_needs_50 rfl ?_
      refine zv_iadd C dX9_needs_52 ⟨by omega, by omega⟩ ?_
      refine zv_iconst C dX9_needs_53 rfl ?_
      refine zv_idiv C dX9_needs_54 (by omega) (by omega) ?_
      refine zv_istore_5 C dX9_needs_55 rfl rfl ?_
      refine zv_aload_n C dX9_needs_57 rfl rfl ?_
      refine zv_iload_n C dX9_needs_58 rfl ?_
      refine zv_iload_n C dX9_needs_59 rfl ?_
      refine zv_iload C dX9_needs_60 rfl ?_
      refine zv_cVi0_3 C dX9_needs_62 k_X9_isEnough l_X9_263 hL.1 rfl ⟨Nat.le_of_ble_eq_true rfl, Nat.le_of_ble_eq_true rfl⟩ ⟨rfl, rfl⟩ ⟨Nat.le_of_ble_eq_true rfl, Nat.le_of_ble_eq_true rfl⟩ rfl rfl ?_
      refine s_X9_isEnough hL (by rw [e111]; exact hW) (by omega) (by omega) (by omega) (by omega) (fun A2 hA2 hq => ?_) (fun A2 hA2 hq => ?_)
      · rw [e111] at hq
        refine zv_if_eq C 75 dX9_needs_65 rfl (fun h => absurd h (by omega)) (fun _ => ?_)
        refine zv_iload C dX9_needs_68 rfl ?_
        refine zv_istore_4 C dX9_needs_70 rfl rfl ?_
        refine zv_goto C 80 dX9_needs_72 rfl ?_
        refine zv_goto C 43 dX9_needs_80 rfl ?_
        exact ih lo _ _ A2 (by omega) (by omega) (by omega) (by omega) (hA.trans hA2.two) hq hl
      · rw [e111] at hq
        refine zv_if_eq C 75 dX9_needs_65 rfl (fun _ => ?_) (fun h => absurd h (by omega))
        refine zv_iload C dX9_needs_75 rfl ?_
        refine zv_iconst C dX9_needs_77 rfl ?_
        refine zv_iadd C dX9_needs_78 ⟨by omega, by omega⟩ ?_
        refine zv_istore_3 C dX9_needs_79 rfl rfl ?_
        refine zv_goto C 43 dX9_needs_80 rfl ?_
        exact ih _ hi _ A2 (by omega) (by omega) (by omega) (by omega) (hA.trans hA2.two) he (Or.inr (by rw [show (lo + hi) / 2 + 1 - 1 = (lo + hi) / 2 by omega]; exact hq))

set_option maxRecDepth 20000 in
theorem s_X9_snap {T : zTt} {FR : zFR} {AR : zAR} {FI : zFI} {AI : zAI} {Post : zPost}  (hL : mLay T FR) (g0 : 0 ≤ FI 100 14) (g1 : FI 100 14 ≤ 10) (hp : ∀ (S : Int → Int) (q : Int), zSnp (AI 113) (AI 111) (FI 100 14) S q → Post (zI 0) T FR AR (zsF FI 100 14 (q + 1)) (zrow AI 113 S)) : zMet M_X9_snap [zR 100] T FR AR FI AI Post := by
  refine zMet.of [some (zR 100), none] rfl rfl rfl (fun G C => ?_)
  suffices J50 : ∀ (q : Int) (S1 : Int → Int) (a1 : Option zVal), 0 ≤ q → q ≤ 9 → q = (if FI 100 14 = 10 then 9 else FI 100 14) → (∀ r k : Int, 0 ≤ r → r < q → 0 ≤ k → k < 1395 → S1 (1395 * r + k) = AI 113 (1395 * (if FI 100 14 = 10 then r + 1 else r) + k)) → zV G 50 [some (zR 100), a1] [] T FR AR (zsF FI 100 14 q) (zrow AI 113 S1) 0 0 from by
    suffices lp1 : FI 100 14 = 10 → ∀ (d : Nat) (k : Int), k + d = 12555 → 0 ≤ k → zV G 11 [some (zR 100), some (zI k)] [] T FR AR FI (zmap AI 113 0 k (fun j => AI 113 (j + 1395))) 0 0 from by
      refine zv_aload_n C dX9_snap_0 rfl rfl ?_
      refine zv_getI C dX9_snap_1 f_X9_171 hL.1 rfl ?_
      refine zv_bipush C dX9_snap_4 rfl ?_
      refine zv_icmp_ne C 50 dX9_snap_6 rfl (fun h6 => ?_) (fun h6 => ?_)
      · have q := J50 (FI 100 14) (AI 113) none (by omega) (by omega) (if_neg (by omega)).symm (fun r k _ _ _ _ => by rw [if_neg (by omega)])
        rw [zsF_self, zrow_self] at q
        exact q
      · refine zv_iconst C dX9_snap_9 rfl ?_
        refine zv_istore_1 C dX9_snap_10 rfl rfl ?_
        have q := lp1 (by omega) 12555 0 (by omega) (by omega)
        rw [zmap_0] at q
        exact q
    intro h10 d
    induction d with
    | zero =>
      intro k hk h0
      have ek : k = 12555 := by omega
      subst ek
      refine zv_iload_n C dX9_snap_11 rfl ?_
      refine zv_sipush C dX9_snap_12 rfl ?_
      refine zv_icmp_ge C 40 dX9_snap_15 rfl (fun h15 => ?_) (fun h15 => absurd h15 (by omega))
      refine zv_aload_n C dX9_snap_40 rfl rfl ?_
      refine zv_dup C dX9_snap_41 rfl ?_
      refine zv_getI C dX9_snap_42 f_X9_171 hL.1 rfl ?_
      refine zv_iconst C dX9_snap_45 rfl ?_
      refine zv_isub C dX9_snap_46 ⟨by omega, by omega⟩ ?_
      refine zv_putI C dX9_snap_47 f_X9_171 hL.1 rfl ?_
      rw [h10, show (10 : Int) - 1 = 9 by decide, zmap_row]
      exact J50 9 _ _ (by omega) (by omega) (if_pos h10).symm (fun r k a b c e => by rw [if_pos (by omega), if_pos h10]; congr 1; omega)
    | succ d ih =>
      intro k hk h0
      have q := ih (k + 1) (by omega) (by omega)
      refine zv_iload_n C dX9_snap_11 rfl ?_
      refine zv_sipush C dX9_snap_12 rfl ?_
      refine zv_icmp_ge C 40 dX9_snap_15 rfl (fun h15 => absurd h15 (by omega)) (fun h15 => ?_)
      refine zv_aload_n C dX9_snap_18 rfl rfl ?_
      refine zv_getR C dX9_snap_19 f_X9_80 hL.1 rfl hL.2.2.2.2.2.2.2.2.2.2.2.2.2.2.2.2.2.1 ?_
      refine zv_iload_n C dX9_snap_22 rfl ?_
      refine zv_aload_n C dX9_snap_23 rfl rfl ?_
      refine zv_getR C dX9_snap_24 f_X9_80 hL.1 rfl hL.2.2.2.2.2.2.2.2.2.2.2.2.2.2.2.2.2.1 ?_
      refine zv_iload_n C dX9_snap_27 rfl ?_
      refine zv_sipush C dX9_snap_28 rfl ?_
      refine zv_iadd C dX9_snap_31 ⟨by omega, by omega⟩ ?_
      refine zv_iaload C dX9_snap_32 hL.2.2.2.2.1 ⟨by omega, by omega⟩ ?_
      rw [zmap_out (by omega)]
      refine zv_iastore C dX9_snap_33 hL.2.2.2.2.1 ⟨by omega, by omega⟩ ?_
      rw [zmap_step (by omega) rfl]
      refine zv_iinc_1 C dX9_snap_34 rfl rfl ⟨by omega, by omega⟩ ?_
      refine zv_goto C 11 dX9_snap_37 rfl ?_
      exact q
  intro q S1 a1 h0 h9 hq hS
  suffices lp2 : ∀ (d : Nat) (k : Int), k + d = 1395 → 0 ≤ k → zV G 52 [some (zR 100), some (zI k)] [] T FR AR (zsF FI 100 14 q) (zmap (zrow AI 113 S1) 113 (1395 * q) (1395 * q + k) (fun j => AI 111 (j - 1395 * q))) 0 0 from by
    refine zv_iconst C dX9_snap_50 rfl ?_
    refine zv_istore_1 C dX9_snap_51 rfl rfl ?_
    have q9 := lp2 1395 0 (by omega) (by omega)
    rw [Int.add_zero, zmap_0] at q9
    exact q9
  intro d
  induction d with
  | zero =>
    intro k hk hk0
    have ek : k = 1395 := by omega
    subst ek
    refine zv_iload_n C dX9_snap_52 rfl ?_
    refine zv_sipush C dX9_snap_53 rfl ?_
    refine zv_icmp_ge C 86 dX9_snap_56 rfl (fun h56 => ?_) (fun h56 => absurd h56 (by omega))
    refine zv_aload_n C dX9_snap_86 rfl rfl ?_
    refine zv_dup C dX9_snap_87 rfl ?_
    refine zv_getI C dX9_snap_88 f_X9_171 hL.1 rfl ?_
    rw [zsF_eq]
    refine zv_iconst C dX9_snap_91 rfl ?_
    refine zv_iadd C dX9_snap_92 ⟨by omega, by omega⟩ ?_
    refine zv_putI C dX9_snap_93 f_X9_171 hL.1 rfl ?_
    refine zv_return C dX9_snap_96 rfl rfl rfl ?_
    rw [zsF_zsF, zmap_row, zrow_zrow]
    refine hp _ q ⟨hq, fun r k a b c e => ?_, fun k a b => ?_⟩
    · dsimp only; rw [if_neg (by omega), zrow_eq]; exact hS r k a b c e
    · dsimp only; rw [if_pos (by omega)]; congr 1; omega
  | succ d ih =>
    intro k hk hk0
    have q9 := ih (k + 1) (by omega) (by omega)
    rw [← Int.add_assoc] at q9
    refine zv_iload_n C dX9_snap_52 rfl ?_
    refine zv_sipush C dX9_snap_53 rfl ?_
    refine zv_icmp_ge C 86 dX9_snap_56 rfl (fun h56 => absurd h56 (by omega)) (fun h56 => ?_)
    refine zv_aload_n C dX9_snap_59 rfl rfl ?_
    refine zv_getR C dX9_snap_60 f_X9_80 hL.1 rfl hL.2.2.2.2.2.2.2.2.2.2.2.2.2.2.2.2.2.1 ?_
    refine zv_sipush C dX9_snap_63 rfl ?_
    refine zv_aload_n C dX9_snap_66 rfl rfl ?_
    refine zv_getI C dX9_snap_67 f_X9_171 hL.1 rfl ?_
    rw [zsF_eq]
    refine zv_imul C dX9_snap_70 ⟨by omega, by omega⟩ ?_
    refine zv_iload_n C dX9_snap_71 rfl ?_
    refine zv_iadd C dX9_snap_72 ⟨by omega, by omega⟩ ?_
    refine zv_aload_n C dX9_snap_73 rfl rfl ?_
    refine zv_getR C dX9_snap_74 f_X9_74 hL.1 rfl hL.2.2.2.2.2.2.2.2.2.2.2.2.2.2.2.1 ?_
    refine zv_iload_n C dX9_snap_77 rfl ?_
    refine zv_iaload C dX9_snap_78 hL.2.2.1 ⟨by omega, by omega⟩ ?_
    rw [zmap_ne (by decide), zrow_ne (by decide)]
    refine zv_iastore C dX9_snap_79 hL.2.2.2.2.1 ⟨by omega, by omega⟩ ?_
    rw [zmap_step (by omega) (by congr 1; omega)]
    refine zv_iinc_1 C dX9_snap_80 rfl rfl ⟨by omega, by omega⟩ ?_
    refine zv_goto C 52 dX9_snap_83 rfl ?_
    exact q9

