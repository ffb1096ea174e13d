def mLay (T : zTt) (FR : zFR) : Prop := T 100 = (1, 7) ∧ T 101 = (2, 640) ∧ T 111 = (2, 1395) ∧ T 112 = (2, 1395) ∧ T 113 = (2, 13950) ∧ T 116 = (2, 50) ∧ T 117 = (2, 50) ∧ T 118 = (2, 40) ∧ T 119 = (2, 40) ∧ T 120 = (2, 40) ∧ T 121 = (2, 40) ∧ T 122 = (2, 40) ∧ T 123 = (2, 40) ∧ T 124 = (2, 40) ∧ FR 100 1 = some 101 ∧ FR 100 11 = some 111 ∧ FR 100 12 = some 112 ∧ FR 100 13 = some 113 ∧ FR 100 16 = some 116 ∧ FR 100 17 = some 117 ∧ FR 100 18 = some 118 ∧ FR 100 19 = some 119 ∧ FR 100 20 = some 120 ∧ FR 100 21 = some 121 ∧ FR 100 22 = some 122 ∧ FR 100 23 = some 123 ∧ FR 100 24 = some 124
theorem ini_Math : Cond.initialized "java/lang/Math" ∈ zWs := ini_19
theorem ini_System : Cond.initialized "java/lang/System" ∈ zWs := ini_20
set_option maxRecDepth 20000 in
theorem s_X9_isIn {T : zTt} {FR : zFR} {AR : zAR} {FI : zFI} {AI : zAI} {Post : zPost} {v a b : Int}  (h1 : a ≤ v ∧ v ≤ b → Post (zI 1) T FR AR FI AI) (h0 : ¬ (a ≤ v ∧ v ≤ b) → Post (zI 0) T FR AR FI AI) : zMet M_X9_isIn [zI v, zI a, zI b] T FR AR FI AI Post := by
  refine zMet.of [some (zI v), some (zI a), some (zI b)] rfl rfl rfl (fun G C => ?_)
  refine zv_iload_n C dX9_isIn_0 rfl ?_
  refine zv_iload_n C dX9_isIn_1 rfl ?_
  refine zv_icmp_lt C 14 dX9_isIn_2 rfl (fun h2 => ?_) (fun h2 => ?_)
  · refine zv_iconst C dX9_isIn_14 rfl ?_
    refine zv_ireturn C dX9_isIn_15 rfl rfl rfl rfl ?_
    exact h0 (by omega)
  · refine zv_iload_n C dX9_isIn_5 rfl ?_
    refine zv_iload_n C dX9_isIn_6 rfl ?_
    refine zv_icmp_gt C 14 dX9_isIn_7 rfl (fun h7 => ?_) (fun h7 => ?_)
    · refine zv_iconst C dX9_isIn_14 rfl ?_
      refine zv_ireturn C dX9_isIn_15 rfl rfl rfl rfl ?_
      exact h0 (by omega)
    · refine zv_iconst C dX9_isIn_10 rfl ?_
      refine zv_goto C 15 dX9_isIn_11 rfl ?_
      refine zv_ireturn C dX9_isIn_15 rfl rfl rfl rfl ?_
      exact h1 (by omega)
set_option maxRecDepth 20000 in
theorem s_X9_thrown {T : zTt} {FR : zFR} {AR : zAR} {FI : zFI} {AI : zAI} {Post : zPost}  (hL : mLay T FR) (hp : Post (zI (FI 100 0)) T FR AR FI AI) : zMet M_X9_thrown [zR 100] T FR AR FI AI Post := by
  refine zMet.of [some (zR 100)] rfl rfl rfl (fun G C => ?_)
  refine zv_aload_n C dX9_thrown_0 rfl rfl ?_
  refine zv_getI C dX9_thrown_1 f_X9_1 hL.1 rfl ?_
  refine zv_ireturn C dX9_thrown_4 rfl rfl rfl rfl ?_
  exact hp
set_option maxRecDepth 20000 in
theorem s_X9_refuse {T : zTt} {FR : zFR} {AR : zAR} {FI : zFI} {AI : zAI} {Post : zPost}  (hL : mLay T FR) (hp : Post (zI 0) T FR AR (zsF FI 100 0 1) AI) : zMet M_X9_refuse [zR 100] T FR AR FI AI Post := by
  refine zMet.of [some (zR 100)] rfl rfl rfl (fun G C => ?_)
  refine zv_aload_n C dX9_refuse_0 rfl rfl ?_
  refine zv_iconst C dX9_refuse_1 rfl ?_
  refine zv_putI C dX9_refuse_2 f_X9_1 hL.1 rfl ?_
  refine zv_iconst C dX9_refuse_5 rfl ?_
  refine zv_ireturn C dX9_refuse_6 rfl rfl rfl rfl ?_
  exact hp
set_option maxRecDepth 20000 in
theorem s_X9_isDigit {T : zTt} {FR : zFR} {AR : zAR} {FI : zFI} {AI : zAI} {Post : zPost} {c : Int}  (h1 : 48 ≤ c ∧ c ≤ 57 → Post (zI 1) T FR AR FI AI) (h0 : ¬ (48 ≤ c ∧ c ≤ 57) → Post (zI 0) T FR AR FI AI) : zMet M_X9_isDigit [zI c] T FR AR FI AI Post := by
  refine zMet.of [some (zI c)] rfl rfl rfl (fun G C => ?_)
  refine zv_iload_n C dX9_isDigit_0 rfl ?_
  refine zv_bipush C dX9_isDigit_1 rfl ?_
  refine zv_icmp_lt C 16 dX9_isDigit_3 rfl (fun h3 => ?_) (fun h3 => ?_)
  · refine zv_iconst C dX9_isDigit_16 rfl ?_
    refine zv_ireturn C dX9_isDigit_17 rfl rfl rfl rfl ?_
    exact h0 (by omega)
  · refine zv_iload_n C dX9_isDigit_6 rfl ?_
    refine zv_bipush C dX9_isDigit_7 rfl ?_
    refine zv_icmp_gt C 16 dX9_isDigit_9 rfl (fun h9 => ?_) (fun h9 => ?_)
    · refine zv_iconst C dX9_isDigit_16 rfl ?_
      refine zv_ireturn C dX9_isDigit_17 rfl rfl rfl rfl ?_
      exact h0 (by omega)
    · refine zv_iconst C dX9_isDigit_12 rfl ?_
      refine zv_goto C 17 dX9_isDigit_13 rfl ?_
      refine zv_ireturn C dX9_isDigit_17 rfl rfl rfl rfl ?_
      exact h1 (by omega)
set_option maxRecDepth 20000 in
theorem s_X9_isLetter {T : zTt} {FR : zFR} {AR : zAR} {FI : zFI} {AI : zAI} {Post : zPost} {c : Int}  (h1 : 97 ≤ c ∧ c ≤ 122 → Post (zI 1) T FR AR FI AI) (h0 : ¬ (97 ≤ c ∧ c ≤ 122) → Post (zI 0) T FR AR FI AI) : zMet M_X9_isLetter [zI c] T FR AR FI AI Post := by
  refine zMet.of [some (zI c)] rfl rfl rfl (fun G C => ?_)
  refine zv_iload_n C dX9_isLetter_0 rfl ?_
  refine zv_bipush C dX9_isLetter_1 rfl ?_
  refine zv_icmp_lt C 16 dX9_isLetter_3 rfl (fun h3 => ?_) (fun h3 => ?_)
  · refine zv_iconst C dX9_isLetter_16 rfl ?_
    refine zv_ireturn C dX9_isLetter_17 rfl rfl rfl rfl ?_
    exact h0 (by omega)
  · refine zv_iload_n C dX9_isLetter_6 rfl ?_
    refine zv_bipush C dX9_isLetter_7 rfl ?_
    refine zv_icmp_gt C 16 dX9_isLetter_9 rfl (fun h9 => ?_) (fun h9 => ?_)
    · refine zv_iconst C dX9_isLetter_16 rfl ?_
      refine zv_ireturn C dX9_isLetter_17 rfl rfl rfl rfl ?_
      exact h0 (by omega)
    · refine zv_iconst C dX9_isLetter_12 rfl ?_
      refine zv_goto C 17 dX9_isLetter_13 rfl ?_
      refine zv_ireturn C dX9_isLetter_17 rfl rfl rfl rfl ?_
      exact h1 (by omega)
set_option maxRecDepth 20000 in
theorem s_X9_tapeAt {T : zTt} {FR : zFR} {AR : zAR} {FI : zFI} {AI : zAI} {Post : zPost} {p : Int} (hL : mLay T FR) (g0 : 0 ≤ p) (g1 : FI 100 3 ≤ 640) (hp : Post (zI (if p < FI 100 3 then AI 101 p else 0)) T FR AR FI AI) : zMet M_X9_tapeAt [zR 100, zI p] T FR AR FI AI Post := by
  refine zMet.of [some (zR 100), some (zI p)] rfl rfl rfl (fun G C => ?_)
  refine zv_iload_n C dX9_tapeAt_0 rfl ?_
  refine zv_aload_n C dX9_tapeAt_1 rfl rfl ?_
  refine zv_getI C dX9_tapeAt_2 f_X9_18 hL.1 rfl ?_
  refine zv_icmp_ge C 17 dX9_tapeAt_5 rfl (fun h5 => ?_) (fun h5 => ?_)
  · refine zv_iconst C dX9_tapeAt_17 rfl ?_
    refine zv_ireturn C dX9_tapeAt_18 rfl rfl rfl rfl ?_
    first | (rw [if_pos (by omega)] at hp; exact hp) | (rw [if_neg (by omega)] at hp; exact hp)
  · refine zv_aload_n C dX9_tapeAt_8 rfl rfl ?_
    refine zv_getR C dX9_tapeAt_9 f_X9_7 hL.1 rfl hL.2.2.2.2.2.2.2.2.2.2.2.2.2.2.1 ?_
    refine zv_iload_n C dX9_tapeAt_12 rfl ?_
    refine zv_iaload C dX9_tapeAt_13 hL.2.1 ⟨by omega, by omega⟩ ?_
    refine zv_goto C 18 dX9_tapeAt_14 rfl ?_
    refine zv_ireturn C dX9_tapeAt_18 rfl rfl rfl rfl ?_
    first | (rw [if_pos (by omega)] at hp; exact hp) | (rw [if_neg (by omega)] at hp; exact hp)
set_option maxRecDepth 20000 in
theorem s_X9_fault {T : zTt} {FR : zFR} {AR : zAR} {FI : zFI} {AI : zAI} {Post : zPost}  (hL : mLay T FR) (hp : Post (zI (FI 100 8)) T FR AR (zsF FI 100 0 0) AI) : zMet M_X9_fault [zR 100] T FR AR FI AI Post := by
  refine zMet.of [some (zR 100)] rfl rfl rfl (fun G C => ?_)
  refine zv_aload_n C dX9_fault_0 rfl rfl ?_
  refine zv_iconst C dX9_fault_1 rfl ?_
  refine zv_putI C dX9_fault_2 f_X9_1 hL.1 rfl ?_
  refine zv_aload_n C dX9_fault_5 rfl rfl ?_
  refine zv_getI C dX9_fault_6 f_X9_62 hL.1 rfl ?_
  try simp (disch := omega) only [zsF_eq, zsF_ne]
  refine zv_ireturn C dX9_fault_9 rfl rfl rfl rfl ?_
  simpa [zsF] using hp
set_option maxRecDepth 20000 in
theorem s_X9_end {T : zTt} {FR : zFR} {AR : zAR} {FI : zFI} {AI : zAI} {Post : zPost} {x : Int} (hL : mLay T FR) (h1 : 0 ≤ x ∧ x ≤ FI 100 2 → Post (zI 1) T FR AR (zsF (zsF FI 100 0 0) 100 2 x) AI) (h0 : ¬ (0 ≤ x ∧ x ≤ FI 100 2) → Post (zI 0) T FR AR (zsF FI 100 0 0) AI) : zMet M_X9_end [zR 100, zI x] T FR AR FI AI Post := by
  refine zMet.of [some (zR 100), some (zI x)] rfl rfl rfl (fun G C => ?_)
  refine zv_aload_n C dX9_end_0 rfl rfl ?_
  refine zv_iconst C dX9_end_1 rfl ?_
  refine zv_putI C dX9_end_2 f_X9_1 hL.1 rfl ?_
  refine zv_iload_n C dX9_end_5 rfl ?_
  refine zv_if_lt C 17 dX9_end_6 rfl (fun h6 => ?_) (fun h6 => ?_)
  · refine zv_iconst C dX9_end_17 rfl ?_
    refine zv_ireturn C dX9_end_18 rfl rfl rfl rfl ?_
    exact h0 (by simp [zsF] at *; omega)
  · refine zv_iload_n C dX9_end_9 rfl ?_
    refine zv_aload_n C dX9_end_10 rfl rfl ?_
    refine zv_getI C dX9_end_11 f_X9_11 hL.1 rfl ?_
    try simp (disch := omega) only [zsF_eq, zsF_ne]
    refine zv_icmp_le C 19 dX9_end_14 rfl (fun h14 => ?_) (fun h14 => ?_)
    · refine zv_aload_n C dX9_end_19 rfl rfl ?_
      refine zv_iload_n C dX9_end_20 rfl ?_
      refine zv_putI C dX9_end_21 f_X9_11 hL.1 rfl ?_
      refine zv_iconst C dX9_end_24 rfl ?_
      refine zv_ireturn C dX9_end_25 rfl rfl rfl rfl ?_
      exact h1 ⟨by omega, by simp [zsF] at *; omega⟩
    · refine zv_iconst C dX9_end_17 rfl ?_
      refine zv_ireturn C dX9_end_18 rfl rfl rfl rfl ?_
      exact h0 (by simp [zsF] at *; omega)
set_option maxRecDepth 20000 in
theorem s_X9_its {T : zTt} {FR : zFR} {AR : zAR} {FI : zFI} {AI : zAI} {Post : zPost} {i f : Int} (hL : mLay T FR) (g0 : 0 ≤ i) (g1 : i < 30) (g2 : 0 ≤ f) (g3 : f < 5) (hp : Post (zI (AI 111 (245 + 5 * i + f))) T FR AR FI AI) : zMet M_X9_its [zR 100, zI i, zI f] T FR AR FI AI Post := by
  refine zMet.of [some (zR 100), some (zI i), some (zI f)] rfl rfl rfl (fun G C => ?_)
  refine zv_aload_n C dX9_its_0 rfl rfl ?_
  refine zv_getR C dX9_its_1 f_X9_74 hL.1 rfl hL.2.2.2.2.2.2.2.2.2.2.2.2.2.2.2.1 ?_
  refine zv_sipush C dX9_its_4 rfl ?_
  refine zv_iconst C dX9_its_7 rfl ?_
  refine zv_iload_n C dX9_its_8 rfl ?_
  refine zv_imul C dX9_its_9 ⟨by omega, by omega⟩ ?_
  refine zv_iadd C dX9_its_10 ⟨by omega, by omega⟩ ?_
  refine zv_iload_n C dX9_its_11 rfl ?_
  refine zv_iadd C dX9_its_12 ⟨by omega, by omega⟩ ?_
  refine zv_iaload C dX9_its_13 hL.2.2.1 ⟨by omega, by omega⟩ ?_
  refine zv_ireturn C dX9_its_14 rfl rfl rfl rfl ?_
  exact hp
set_option maxRecDepth 20000 in
theorem s_X9_lost {T : zTt} {FR : zFR} {AR : zAR} {FI : zFI} {AI : zAI} {Post : zPost} {i f : Int} (hL : mLay T FR) (g0 : 0 ≤ i) (g1 : i < 10) (g2 : 0 ≤ f) (g3 : f < 4) (hp : Post (zI (AI 111 (395 + 4 * i + f))) T FR AR FI AI) : zMet M_X9_lost [zR 100, zI i, zI f] T FR AR FI AI Post := by
  refine zMet.of [some (zR 100), some (zI i), some (zI f)] rfl rfl rfl (fun G C => ?_)
  refine zv_aload_n C dX9_lost_0 rfl rfl ?_
  refine zv_getR C dX9_lost_1 f_X9_74 hL.1 rfl hL.2.2.2.2.2.2.2.2.2.2.2.2.2.2.2.1 ?_
  refine zv_sipush C dX9_lost_4 rfl ?_
  refine zv_iconst C dX9_lost_7 rfl ?_
  refine zv_iload_n C dX9_lost_8 rfl ?_
  refine zv_imul C dX9_lost_9 ⟨by omega, by omega⟩ ?_
  refine zv_iadd C dX9_lost_10 ⟨by omega, by omega⟩ ?_
  refine zv_iload_n C dX9_lost_11 rfl ?_
  refine zv_iadd C dX9_lost_12 ⟨by omega, by omega⟩ ?_
  refine zv_iaload C dX9_lost_13 hL.2.2.1 ⟨by omega, by omega⟩ ?_
  refine zv_ireturn C dX9_lost_14 rfl rfl rfl rfl ?_
  exact hp
set_option maxRecDepth 20000 in
theorem s_X9_rateOf {T : zTt} {FR : zFR} {AR : zAR} {FI : zFI} {AI : zAI} {Post : zPost} {o y : Int} (hL : mLay T FR) (g0 : 0 ≤ o) (g1 : o < 3) (g2 : 0 ≤ y) (g3 : y < 40) (hp : Post (zI (AI 111 (5 + 40 * o + y))) T FR AR FI AI) : zMet M_X9_rateOf [zR 100, zI o, zI y] T FR AR FI AI Post := by
  refine zMet.of [some (zR 100), some (zI o), some (zI y)] rfl rfl rfl (fun G C => ?_)
  refine zv_aload_n C dX9_rateOf_0 rfl rfl ?_
  refine zv_getR C dX9_rateOf_1 f_X9_74 hL.1 rfl hL.2.2.2.2.2.2.2.2.2.2.2.2.2.2.2.1 ?_
  refine zv_iconst C dX9_rateOf_4 rfl ?_
  refine zv_bipush C dX9_rateOf_5 rfl ?_
  refine zv_iload_n C dX9_rateOf_7 rfl ?_
  refine zv_imul C dX9_rateOf_8 ⟨by omega, by omega⟩ ?_
  refine zv_iadd C dX9_rateOf_9 ⟨by omega, by omega⟩ ?_
  refine zv_iload_n C dX9_rateOf_10 rfl ?_
  refine zv_iadd C dX9_rateOf_11 ⟨by omega, by omega⟩ ?_
  refine zv_iaload C dX9_rateOf_12 hL.2.2.1 ⟨by omega, by omega⟩ ?_
  refine zv_ireturn C dX9_rateOf_13 rfl rfl rfl rfl ?_
  exact hp
set_option maxRecDepth 20000 in
theorem s_X9_profitOf {T : zTt} {FR : zFR} {AR : zAR} {FI : zFI} {AI : zAI} {Post : zPost} {o y : Int} (hL : mLay T FR) (g0 : 0 ≤ o) (g1 : o < 3) (g2 : 0 ≤ y) (g3 : y < 40) (hp : Post (zI (AI 111 (125 + 40 * o + y))) T FR AR FI AI) : zMet M_X9_profitOf [zR 100, zI o, zI y] T FR AR FI AI Post := by
  refine zMet.of [some (zR 100), some (zI o), some (zI y)] rfl rfl rfl (fun G C => ?_)
  refine zv_aload_n C dX9_profitOf_0 rfl rfl ?_
  refine zv_getR C dX9_profitOf_1 f_X9_74 hL.1 rfl hL.2.2.2.2.2.2.2.2.2.2.2.2.2.2.2.1 ?_
  refine zv_bipush C dX9_profitOf_4 rfl ?_
  refine zv_bipush C dX9_profitOf_6 rfl ?_
  refine zv_iload_n C dX9_profitOf_8 rfl ?_
  refine zv_imul C dX9_profitOf_9 ⟨by omega, by omega⟩ ?_
  refine zv_iadd C dX9_profitOf_10 ⟨by omega, by omega⟩ ?_
  refine zv_iload_n C dX9_profitOf_11 rfl ?_
  refine zv_iadd C dX9_profitOf_12 ⟨by omega, by omega⟩ ?_
  refine zv_iaload C dX9_profitOf_13 hL.2.2.1 ⟨by omega, by omega⟩ ?_
  refine zv_ireturn C dX9_profitOf_14 rfl rfl rfl rfl ?_
  exact hp
set_option maxRecDepth 20000 in
theorem s_X9_closingAt {T : zTt} {FR : zFR} {AR : zAR} {FI : zFI} {AI : zAI} {Post : zPost} {o y : Int} (g0 : 0 ≤ o) (g1 : o < 3) (g2 : 0 ≤ y) (g3 : y < 40) (hp : Post (zI (435 + 240 * o + 6 * y)) T FR AR FI AI) : zMet M_X9_closingAt [zI o, zI y] T FR AR FI AI Post := by
  refine zMet.of [some (zI o), some (zI y)] rfl rfl rfl (fun G C => ?_)
  refine zv_sipush C dX9_closingAt_0 rfl ?_
  refine zv_sipush C dX9_closingAt_3 rfl ?_
  refine zv_iload_n C dX9_closingAt_6 rfl ?_
  refine zv_imul C dX9_closingAt_7 ⟨by omega, by omega⟩ ?_
  refine zv_iadd C dX9_closingAt_8 ⟨by omega, by omega⟩ ?_
  refine zv_bipush C dX9_closingAt_9 rfl ?_
  refine zv_iload_n C dX9_closingAt_11 rfl ?_
  refine zv_imul C dX9_closingAt_12 ⟨by omega, by omega⟩ ?_
  refine zv_iadd C dX9_closingAt_13 ⟨by omega, by omega⟩ ?_
  refine zv_ireturn C dX9_closingAt_14 rfl rfl rfl rfl ?_
  exact hp
set_option maxRecDepth 20000 in
theorem s_X9_used {T : zTt} {FR : zFR} {AR : zAR} {FI : zFI} {AI : zAI} {Post : zPost} {y : Int} (hL : mLay T FR) (g2 : 0 ≤ y) (g3 : y < 40) (g4 : zr32 (AI 121 y + AI 122 y)) (hp : Post (zI (AI 121 y + AI 122 y)) T FR AR FI AI) : zMet M_X9_used [zR 100, zI y] T FR AR FI AI Post := by
  refine zMet.of [some (zR 100), some (zI y)] rfl rfl rfl (fun G C => ?_)
  refine zv_aload_n C dX9_used_0 rfl rfl ?_
  refine zv_getR C dX9_used_1 f_X9_98 hL.1 rfl hL.2.2.2.2.2.2.2.2.2.2.2.2.2.2.2.2.2.2.2.2.2.2.2.1 ?_
  refine zv_iload_n C dX9_used_4 rfl ?_
  refine zv_iaload C dX9_used_5 hL.2.2.2.2.2.2.2.2.2.2.1 ⟨by omega, by omega⟩ ?_
  refine zv_aload_n C dX9_used_6 rfl rfl ?_
  refine zv_getR C dX9_used_7 f_X9_101 hL.1 rfl hL.2.2.2.2.2.2.2.2.2.2.2.2.2.2.2.2.2.2.2.2.2.2.2.2.1 ?_
  refine zv_iload_n C dX9_used_10 rfl ?_
  refine zv_iaload C dX9_used_11 hL.2.2.2.2.2.2.2.2.2.2.2.1 ⟨by omega, by omega⟩ ?_
  refine zv_iadd C dX9_used_12 ⟨by omega, by omega⟩ ?_
  refine zv_ireturn C dX9_used_13 rfl rfl rfl rfl ?_
  exact hp
