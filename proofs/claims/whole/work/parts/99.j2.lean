set_option maxRecDepth 20000 in
theorem s_X6_most {T : zTt} {FR : zFR} {AR : zAR} {FI : zFI} {AI : zAI} {Post : zPost} {B D : Nat} {c : Int} (hd : dLay T FR B D) (hrb : FR 3 2 = some D) (hD : bLay T FR D) (g0 : 0 ≤ FI D 6 ∧ FI D 6 ≤ 3) (hp : Post (zI (if c = 78 then 20 else if c = 82 then 900 else if c = 79 then FI D 6 - 1 else if c = 83 then 99999 else 39)) T FR AR FI AI) : zMet M_X6_most [zR 3, zI c] T FR AR FI AI Post := by
  refine zMet.of [some (zR 3), some (zI c)] rfl rfl rfl (fun G C => ?_)
  refine zv_iload_n C dX6_most_0 rfl ?_
  by_cases h1r : 78 ≤ c ∧ c ≤ 83
  · have h1s : c = 78 ∨ c = 79 ∨ c = 80 ∨ c = 81 ∨ c = 82 ∨ c = 83 := by omega
    rcases h1s with h1e | h1e | h1e | h1e | h1e | h1e
    · refine zv_tableIn C 40 dX6_most_1 (by omega) (by omega) (by rw [h1e]; rfl) rfl ?_
      refine zv_bipush C dX6_most_40 rfl ?_
      refine zv_ireturn C dX6_most_42 rfl rfl rfl rfl ?_
      refine zpost ?_ hp
      repeat (first | rw [if_pos (by omega)] | rw [if_neg (by omega)])
    · refine zv_tableIn C 47 dX6_most_1 (by omega) (by omega) (by rw [h1e]; rfl) rfl ?_
      refine zv_aload_n C dX6_most_47 rfl rfl ?_
      refine zv_getR C dX6_most_48 f_X6_25 hd.2.2.2.1 rfl hrb ?_
      refine zv_getI C dX6_most_51 f_X6_111 hD.1 rfl ?_
      refine zv_iconst C dX6_most_54 rfl ?_
      refine zv_isub C dX6_most_55 ⟨by omega, by omega⟩ ?_
      refine zv_ireturn C dX6_most_56 rfl rfl rfl rfl ?_
      refine zpost ?_ hp
      repeat (first | rw [if_pos (by omega)] | rw [if_neg (by omega)])
    · refine zv_tableIn C 60 dX6_most_1 (by omega) (by omega) (by rw [h1e]; rfl) rfl ?_
      refine zv_bipush C dX6_most_60 rfl ?_
      refine zv_ireturn C dX6_most_62 rfl rfl rfl rfl ?_
      refine zpost ?_ hp
      repeat (first | rw [if_pos (by omega)] | rw [if_neg (by omega)])
    · refine zv_tableIn C 60 dX6_most_1 (by omega) (by omega) (by rw [h1e]; rfl) rfl ?_
      refine zv_bipush C dX6_most_60 rfl ?_
      refine zv_ireturn C dX6_most_62 rfl rfl rfl rfl ?_
      refine zpost ?_ hp
      repeat (first | rw [if_pos (by omega)] | rw [if_neg (by omega)])
    · refine zv_tableIn C 43 dX6_most_1 (by omega) (by omega) (by rw [h1e]; rfl) rfl ?_
      refine zv_sipush C dX6_most_43 rfl ?_
      refine zv_ireturn C dX6_most_46 rfl rfl rfl rfl ?_
      refine zpost ?_ hp
      repeat (first | rw [if_pos (by omega)] | rw [if_neg (by omega)])
    · refine zv_tableIn C 57 dX6_most_1 (by omega) (by omega) (by rw [h1e]; rfl) rfl ?_
      refine zv_ldc (x := 99999) C dX6_most_57 c_X6_138 rfl ?_
      refine zv_ireturn C dX6_most_59 rfl rfl rfl rfl ?_
      refine zpost ?_ hp
      repeat (first | rw [if_pos (by omega)] | rw [if_neg (by omega)])
  · refine zv_tableOut C 60 dX6_most_1 (by omega) rfl ?_
    refine zv_bipush C dX6_most_60 rfl ?_
    refine zv_ireturn C dX6_most_62 rfl rfl rfl rfl ?_
    refine zpost ?_ hp
    repeat (first | rw [if_pos (by omega)] | rw [if_neg (by omega)])
set_option maxRecDepth 20000 in
theorem s_X6_mayCome {T : zTt} {FR : zFR} {AR : zAR} {FI : zFI} {AI : zAI} {Post : zPost} {B D : Nat} {j : Nat} (hd : dLay T FR B D) (hrb : FR 3 2 = some D) (hD : bLay T FR D) (g0 : 0 ≤ FI D 6 ∧ FI D 6 ≤ 3) (hj : j < 7) (h1 : (if j = 0 then FI 3 7 = 0 else if j = 1 then FI 3 7 = 1 + FI D 6 else 2 ≤ FI 3 7) → Post (zI 1) T FR AR FI AI) (h0 : ¬ (if j = 0 then FI 3 7 = 0 else if j = 1 then FI 3 7 = 1 + FI D 6 else 2 ≤ FI 3 7) → Post (zI 0) T FR AR FI AI) : zMet M_X6_mayCome [zR 3, zA j] T FR AR FI AI Post := by
  refine zMet.of [some (zR 3), some (zA j)] rfl rfl rfl (fun G C => ?_)
  refine zv_aload_n C dX6_mayCome_0 rfl rfl ?_
  refine zv_getsA (j := 0) (q := 0) C dX6_mayCome_1 fs_X6_104 (fun sa => rfl) ?_
  refine zv_acmp_neA C 20 dX6_mayCome_4 rfl (by omega) (by omega) (fun h4 => ?_) (fun h4 => ?_)
  · refine zv_aload_n C dX6_mayCome_20 rfl rfl ?_
    refine zv_getsA (j := 1) (q := 1) C dX6_mayCome_21 fs_X6_108 (fun sa => rfl) ?_
    refine zv_acmp_neA C 49 dX6_mayCome_24 rfl (by omega) (by omega) (fun h24 => ?_) (fun h24 => ?_)
    · refine zv_aload_n C dX6_mayCome_49 rfl rfl ?_
      refine zv_getI C dX6_mayCome_50 f_X6_36 hd.2.2.2.1 rfl ?_
      refine zv_iconst C dX6_mayCome_53 rfl ?_
      refine zv_icmp_lt C 61 dX6_mayCome_54 rfl (fun h54 => ?_) (fun h54 => ?_)
      · refine zv_iconst C dX6_mayCome_61 rfl ?_
        refine zv_ireturn C dX6_mayCome_62 rfl rfl rfl rfl ?_
        exact h0 (by (first | (rw [if_pos (by omega)]; omega) | (rw [if_neg (by omega), if_pos (by omega)]; omega) | (rw [if_neg (by omega), if_neg (by omega)]; omega)))
      · refine zv_iconst C dX6_mayCome_57 rfl ?_
        refine zv_goto C 62 dX6_mayCome_58 rfl ?_
        refine zv_ireturn C dX6_mayCome_62 rfl rfl rfl rfl ?_
        exact h1 (by (first | (rw [if_pos (by omega)]; omega) | (rw [if_neg (by omega), if_pos (by omega)]; omega) | (rw [if_neg (by omega), if_neg (by omega)]; omega)))
    · refine zv_aload_n C dX6_mayCome_27 rfl rfl ?_
      refine zv_getI C dX6_mayCome_28 f_X6_36 hd.2.2.2.1 rfl ?_
      refine zv_iconst C dX6_mayCome_31 rfl ?_
      refine zv_aload_n C dX6_mayCome_32 rfl rfl ?_
      refine zv_getR C dX6_mayCome_33 f_X6_25 hd.2.2.2.1 rfl hrb ?_
      refine zv_getI C dX6_mayCome_36 f_X6_111 hD.1 rfl ?_
      refine zv_iadd C dX6_mayCome_39 ⟨by omega, by omega⟩ ?_
      refine zv_icmp_ne C 47 dX6_mayCome_40 rfl (fun h40 => ?_) (fun h40 => ?_)
      · refine zv_iconst C dX6_mayCome_47 rfl ?_
        refine zv_ireturn C dX6_mayCome_48 rfl rfl rfl rfl ?_
        exact h0 (by (first | (rw [if_pos (by omega)]; omega) | (rw [if_neg (by omega), if_pos (by omega)]; omega) | (rw [if_neg (by omega), if_neg (by omega)]; omega)))
      · refine zv_iconst C dX6_mayCome_43 rfl ?_
        refine zv_goto C 48 dX6_mayCome_44 rfl ?_
        refine zv_ireturn C dX6_mayCome_48 rfl rfl rfl rfl ?_
        exact h1 (by (first | (rw [if_pos (by omega)]; omega) | (rw [if_neg (by omega), if_pos (by omega)]; omega) | (rw [if_neg (by omega), if_neg (by omega)]; omega)))
  · refine zv_aload_n C dX6_mayCome_7 rfl rfl ?_
    refine zv_getI C dX6_mayCome_8 f_X6_36 hd.2.2.2.1 rfl ?_
    refine zv_if_ne C 18 dX6_mayCome_11 rfl (fun h11 => ?_) (fun h11 => ?_)
    · refine zv_iconst C dX6_mayCome_18 rfl ?_
      refine zv_ireturn C dX6_mayCome_19 rfl rfl rfl rfl ?_
      exact h0 (by (first | (rw [if_pos (by omega)]; omega) | (rw [if_neg (by omega), if_pos (by omega)]; omega) | (rw [if_neg (by omega), if_neg (by omega)]; omega)))
    · refine zv_iconst C dX6_mayCome_14 rfl ?_
      refine zv_goto C 19 dX6_mayCome_15 rfl ?_
      refine zv_ireturn C dX6_mayCome_19 rfl rfl rfl rfl ?_
      exact h1 (by (first | (rw [if_pos (by omega)]; omega) | (rw [if_neg (by omega), if_pos (by omega)]; omega) | (rw [if_neg (by omega), if_neg (by omega)]; omega)))
