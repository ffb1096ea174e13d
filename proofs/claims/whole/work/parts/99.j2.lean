set_option maxRecDepth 20000 in
theorem s_X6_most {T : zTt} {FR : zFR} {AR : zAR} {FI : zFI} {AI : zAI} {Post : zPost} {B D : Nat} {c : Int} (hd : dLay T FR B D) (hrb : FR 3 2 = some D) (hD : bLay T FR D) (g0 : 0 ≤ FI D 6 ∧ FI D 6 ≤ 3) (hp : Post (zI (if c = 78 then 20 else if c = 82 then 900 else if c = 79 then FI D 6 - 1 else if c = 83 then 99999 else 39)) T FR AR FI AI) : zMet M_X6_most [zR 3, zI c] T FR AR FI AI Post := by
  refine zMet.of [some (zR 3), some (zI c)] rfl rfl rfl (fun G C => ?_)
  refine zv_iload_n C dX6_most_0 rfl ?_
  by_cases h1r : 78 ≤ c ∧ c ≤ 83
  · have h1s : c = 78 ∨ c = 79 ∨ c = 80 ∨ c = 81 ∨ c = 82 ∨ c = 83 := by omega
    rcases h1s with h1e | h1e | h1e | h1e | h1e | h1e
    · refine zv_tableIn C 40 dX6_most_1 (by omega) (by omega) (by rw [h1e]; rfl) rfl ?_
      refine zv_bipush C dX6_most_40 rfl ?_
      refine zv_ireturn C dX6_most_42 rfl rfl rfl rfl ?_
      refine zpost ?_ hp
      repeat (first | rw [if_pos (by omega)] | rw [if_neg (by omega)])
    · refine zv_tableIn C 47 dX6_most_1 (by omega) (by omega) (by rw [h1e]; rfl) rfl ?_
      refine zv_aload_n C dX6_most_47 rfl rfl ?_
      refine zv_getR C dX6_most_48 f_X6_19 hd.2.2.2.1 rfl hrb ?_
      refine zv_getI C dX6_most_51 f_X6_109 hD.1 rfl ?_
      refine zv_iconst C dX6_most_54 rfl ?_
      refine zv_isub C dX6_most_55 ⟨by omega, by omega⟩ ?_
      refine zv_ireturn C dX6_most_56 rfl rfl rfl rfl ?_
      refine zpost ?_ hp
      repeat (first | rw [if_pos (by omega)] | rw [if_neg (by omega)])
    · refine zv_tableIn C 60 dX6_most_1 (by omega) (by omega) (by rw [h1e]; rfl) rfl ?_
      refine zv_bipush C dX6_most_60 rfl ?_
      refine zv_ireturn C dX6_most_62 rfl rfl rfl rfl ?_
      refine zpost ?_ hp
      repeat (first | rw [if_pos (by omega)] | rw [if_neg (by omega)])
    · refine zv_tableIn C 60 dX6_most_1 (by omega) (by omega) (by rw [h1e]; rfl) rfl ?_
      refine zv_bipush C dX6_most_60 rfl ?_
      refine zv_ireturn C dX6_most_62 rfl rfl rfl rfl ?_
      refine zpost ?_ hp
      repeat (first | rw [if_pos (by omega)] | rw [if_neg (by omega)])
    · refine zv_tableIn C 43 dX6_most_1 (by omega) (by omega) (by rw [h1e]; rfl) rfl ?_
      refine zv_sipush C dX6_most_43 rfl ?_
      refine zv_ireturn C dX6_most_46 rfl rfl rfl rfl ?_
      refine zpost ?_ hp
      repeat (first | rw [if_pos (by omega)] | rw [if_neg (by omega)])
    · refine zv_tableIn C 57 dX6_most_1 (by omega) (by omega) (by rw [h1e]; rfl) rfl ?_
      refine zv_ldc (x := 99999) C dX6_most_57 c_X6_136 rfl ?_
      refine zv_ireturn C dX6_most_59 rfl rfl rfl rfl ?_
      refine zpost ?_ hp
      repeat (first | rw [if_pos (by omega)] | rw [if_neg (by omega)])
  · refine zv_tableOut C 60 dX6_most_1 (by omega) rfl ?_
    refine zv_bipush C dX6_most_60 rfl ?_
    refine zv_ireturn C dX6_most_62 rfl rfl rfl rfl ?_
    refine zpost ?_ hp
    repeat (first | rw [if_pos (by omega)] | rw [if_neg (by omega)])
