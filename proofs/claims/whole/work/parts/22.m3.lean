theorem zsF_zsF {FI : zFI} {o j : Nat} {x y : Int} : zsF (zsF FI o j x) o j y = zsF FI o j y := by
  funext o' j'
  simp only [zsF]
  by_cases h : o' = o ∧ j' = j
  · rw [if_pos h, if_pos h]
  · rw [if_neg h, if_neg h, if_neg h]
theorem zbm (z : Int) : Int.bmod z 4294967296 % 256 = z % 256 := by
  rw [Int.bmod_def]
  split <;> omega
/-- byte k of a number -/
def zby (w : Int) (k : Int) : Int := w / k % 256
theorem zby_ok (w : Int) (kb : Nat) (h : kb = 24 ∨ kb = 16 ∨ kb = 8 ∨ kb = 0) : Int.bmod (w % 4294967296 / ((2 ^ kb : Nat) : Int)) 4294967296 % ((2 ^ 8 : Nat) : Int) = zby w ((2 ^ kb : Nat) : Int) := by
  rw [show ((2 ^ 8 : Nat) : Int) = 256 from rfl, zbm]
  unfold zby
  rcases h with h | h | h | h <;> subst h
  · rw [show ((2 ^ 24 : Nat) : Int) = 16777216 from rfl]; omega
  · rw [show ((2 ^ 16 : Nat) : Int) = 65536 from rfl]; omega
  · rw [show ((2 ^ 8 : Nat) : Int) = 256 from rfl]; omega
  · rw [show ((2 ^ 0 : Nat) : Int) = 1 from rfl]; omega
def zlay (AI : zAI) (a : Nat) (t w : Int) : zAI := zsA (zsA (zsA (zsA AI a t (zby w ((2 ^ 24 : Nat) : Int))) a (t + 1) (zby w ((2 ^ 16 : Nat) : Int))) a (t + 1 + 1) (zby w ((2 ^ 8 : Nat) : Int))) a (t + 1 + 1 + 1) (zby w ((2 ^ 0 : Nat) : Int))
set_option maxRecDepth 20000 in
theorem s_X9_lays {T : zTt} {FR : zFR} {AR : zAR} {FI : zFI} {AI : zAI} {Post : zPost} {w : Int} (hL : mLay T FR) (g0 : 0 ≤ FI 100 2) (g1 : FI 100 2 ≤ 636) (hp : Post (zI 0) T FR AR (zsF FI 100 2 (FI 100 2 + 1 + 1 + 1 + 1)) (zlay AI 101 (FI 100 2) w)) : zMet M_X9_lays [zR 100, zI w] T FR AR FI AI Post := by
  refine zMet.of [some (zR 100), some (zI w), none] rfl rfl rfl (fun G C => ?_)
  refine zv_bipush C dX9_lays_0 rfl ?_
  refine zv_istore_2 C dX9_lays_2 rfl rfl ?_
  refine zv_iload_n C dX9_lays_3 rfl ?_
  refine zv_if_lt C 39 dX9_lays_4 rfl (fun h => absurd h (by omega)) (fun _ => ?_)
  refine zv_aload_n C dX9_lays_7 rfl rfl ?_
  refine zv_getR C dX9_lays_8 f_X9_7 hL.1 rfl hL.2.2.2.2.2.2.2.2.2.2.2.2.2.2.1 ?_
  refine zv_aload_n C dX9_lays_11 rfl rfl ?_
  refine zv_getI C dX9_lays_12 f_X9_11 hL.1 rfl ?_
  refine zv_iload_n C dX9_lays_15 rfl ?_
  refine zv_iload_n C dX9_lays_16 rfl ?_
  refine zv_iushr C 24 dX9_lays_17 rfl rfl ?_
  refine zv_sipush C dX9_lays_18 rfl ?_
  refine zv_iand C 8 dX9_lays_21 rfl ?_
  rw [zby_ok _ _ (by decide)]
  refine zv_iastore C dX9_lays_22 hL.2.1 ⟨by omega, by omega⟩ ?_
  refine zv_aload_n C dX9_lays_23 rfl rfl ?_
  refine zv_dup C dX9_lays_24 rfl ?_
  refine zv_getI C dX9_lays_25 f_X9_11 hL.1 rfl ?_
  refine zv_iconst C dX9_lays_28 rfl ?_
  refine zv_iadd C dX9_lays_29 ⟨by omega, by omega⟩ ?_
  refine zv_putI C dX9_lays_30 f_X9_11 hL.1 rfl ?_
  refine zv_iinc_2 C dX9_lays_33 rfl rfl ⟨by omega, by omega⟩ ?_
  refine zv_goto C 3 dX9_lays_36 rfl ?_
  refine zv_iload_n C dX9_lays_3 rfl ?_
  refine zv_if_lt C 39 dX9_lays_4 rfl (fun h => absurd h (by omega)) (fun _ => ?_)
  refine zv_aload_n C dX9_lays_7 rfl rfl ?_
  refine zv_getR C dX9_lays_8 f_X9_7 hL.1 rfl hL.2.2.2.2.2.2.2.2.2.2.2.2.2.2.1 ?_
  refine zv_aload_n C dX9_lays_11 rfl rfl ?_
  refine zv_getI C dX9_lays_12 f_X9_11 hL.1 rfl ?_
  try simp (disch := omega) only [zsF_eq, zsF_ne]
  refine zv_iload_n C dX9_lays_15 rfl ?_
  refine zv_iload_n C dX9_lays_16 rfl ?_
  refine zv_iushr C 16 dX9_lays_17 rfl rfl ?_
  refine zv_sipush C dX9_lays_18 rfl ?_
  refine zv_iand C 8 dX9_lays_21 rfl ?_
  rw [zby_ok _ _ (by decide)]
  refine zv_iastore C dX9_lays_22 hL.2.1 ⟨by omega, by omega⟩ ?_
  refine zv_aload_n C dX9_lays_23 rfl rfl ?_
  refine zv_dup C dX9_lays_24 rfl ?_
  refine zv_getI C dX9_lays_25 f_X9_11 hL.1 rfl ?_
  try simp (disch := omega) only [zsF_eq, zsF_ne]
  refine zv_iconst C dX9_lays_28 rfl ?_
  refine zv_iadd C dX9_lays_29 ⟨by omega, by omega⟩ ?_
  refine zv_putI C dX9_lays_30 f_X9_11 hL.1 rfl ?_
  refine zv_iinc_2 C dX9_lays_33 rfl rfl ⟨by omega, by omega⟩ ?_
  refine zv_goto C 3 dX9_lays_36 rfl ?_
  refine zv_iload_n C dX9_lays_3 rfl ?_
  refine zv_if_lt C 39 dX9_lays_4 rfl (fun h => absurd h (by omega)) (fun _ => ?_)
  refine zv_aload_n C dX9_lays_7 rfl rfl ?_
  refine zv_getR C dX9_lays_8 f_X9_7 hL.1 rfl hL.2.2.2.2.2.2.2.2.2.2.2.2.2.2.1 ?_
  refine zv_aload_n C dX9_lays_11 rfl rfl ?_
  refine zv_getI C dX9_lays_12 f_X9_11 hL.1 rfl ?_
  try simp (disch := omega) only [zsF_eq, zsF_ne]
  refine zv_iload_n C dX9_lays_15 rfl ?_
  refine zv_iload_n C dX9_lays_16 rfl ?_
  refine zv_iushr C 8 dX9_lays_17 rfl rfl ?_
  refine zv_sipush C dX9_lays_18 rfl ?_
  refine zv_iand C 8 dX9_lays_21 rfl ?_
  rw [zby_ok _ _ (by decide)]
  refine zv_iastore C dX9_lays_22 hL.2.1 ⟨by omega, by omega⟩ ?_
  refine zv_aload_n C dX9_lays_23 rfl rfl ?_
  refine zv_dup C dX9_lays_24 rfl ?_
  refine zv_getI C dX9_lays_25 f_X9_11 hL.1 rfl ?_
  try simp (disch := omega) only [zsF_eq, zsF_ne]
  refine zv_iconst C dX9_lays_28 rfl ?_
  refine zv_iadd C dX9_lays_29 ⟨by omega, by omega⟩ ?_
  refine zv_putI C dX9_lays_30 f_X9_11 hL.1 rfl ?_
  refine zv_iinc_2 C dX9_lays_33 rfl rfl ⟨by omega, by omega⟩ ?_
  refine zv_goto C 3 dX9_lays_36 rfl ?_
  refine zv_iload_n C dX9_lays_3 rfl ?_
  refine zv_if_lt C 39 dX9_lays_4 rfl (fun h => absurd h (by omega)) (fun _ => ?_)
  refine zv_aload_n C dX9_lays_7 rfl rfl ?_
  refine zv_getR C dX9_lays_8 f_X9_7 hL.1 rfl hL.2.2.2.2.2.2.2.2.2.2.2.2.2.2.1 ?_
  refine zv_aload_n C dX9_lays_11 rfl rfl ?_
  refine zv_getI C dX9_lays_12 f_X9_11 hL.1 rfl ?_
  try simp (disch := omega) only [zsF_eq, zsF_ne]
  refine zv_iload_n C dX9_lays_15 rfl ?_
  refine zv_iload_n C dX9_lays_16 rfl ?_
  refine zv_iushr C 0 dX9_lays_17 rfl rfl ?_
  refine zv_sipush C dX9_lays_18 rfl ?_
  refine zv_iand C 8 dX9_lays_21 rfl ?_
  rw [zby_ok _ _ (by decide)]
  refine zv_iastore C dX9_lays_22 hL.2.1 ⟨by omega, by omega⟩ ?_
  refine zv_aload_n C dX9_lays_23 rfl rfl ?_
  refine zv_dup C dX9_lays_24 rfl ?_
  refine zv_getI C dX9_lays_25 f_X9_11 hL.1 rfl ?_
  try simp (disch := omega) only [zsF_eq, zsF_ne]
  refine zv_iconst C dX9_lays_28 rfl ?_
  refine zv_iadd C dX9_lays_29 ⟨by omega, by omega⟩ ?_
  refine zv_putI C dX9_lays_30 f_X9_11 hL.1 rfl ?_
  refine zv_iinc_2 C dX9_lays_33 rfl rfl ⟨by omega, by omega⟩ ?_
  refine zv_goto C 3 dX9_lays_36 rfl ?_
  refine zv_iload_n C dX9_lays_3 rfl ?_
  refine zv_if_lt C 39 dX9_lays_4 rfl (fun _ => ?_) (fun h => absurd h (by omega))
  refine zv_return C dX9_lays_39 rfl rfl rfl ?_
  simp only [zsF_zsF]
  exact hp
set_option maxRecDepth 20000 in
theorem s_X9_feed {T : zTt} {FR : zFR} {AR : zAR} {FI : zFI} {AI : zAI} {Post : zPost} {a b c d e : Int} (hL : mLay T FR) (g0 : 0 ≤ FI 100 2) (g1 : FI 100 2 ≤ 640) (h0 : ¬ FI 100 2 + 20 ≤ 640 → Post (zI (-1)) T FR AR (zsF FI 100 0 0) AI) (h1 : FI 100 2 + 20 ≤ 640 → Post (zI (FI 100 2 + 20)) T FR AR (zsF (zsF FI 100 0 0) 100 2 (FI 100 2 + 20)) (zlay (zlay (zlay (zlay (zlay AI 101 (FI 100 2) a) 101 (FI 100 2 + 4) b) 101 (FI 100 2 + 8) c) 101 (FI 100 2 + 12) d) 101 (FI 100 2 + 16) e)) : zMet M_X9_feed [zR 100, zI a, zI b, zI c, zI d, zI e] T FR AR FI AI Post := by
  refine zMet.of [some (zR 100), some (zI a), some (zI b), some (zI c), some (zI d), some (zI e)] rfl rfl rfl (fun G C => ?_)
  have e0 : zsF FI 100 0 0 100 2 = FI 100 2 := zsF_ne (by decide)
  refine zv_aload_n C dX9_feed_0 rfl rfl ?_
  refine zv_iconst C dX9_feed_1 rfl ?_
  refine zv_putI C dX9_feed_2 f_X9_1 hL.1 rfl ?_
  refine zv_aload_n C dX9_feed_5 rfl rfl ?_
  refine zv_getI C dX9_feed_6 f_X9_11 hL.1 rfl ?_
  try simp (disch := omega) only [zsF_eq, zsF_ne]
  refine zv_bipush C dX9_feed_9 rfl ?_
  refine zv_iadd C dX9_feed_11 ⟨by omega, by omega⟩ ?_
  refine zv_sipush C dX9_feed_12 rfl ?_
  refine zv_icmp_le C 20 dX9_feed_15 rfl (fun h15 => ?_) (fun h15 => ?_)
  · refine zv_aload_n C dX9_feed_20 rfl rfl ?_
    refine zv_iload_n C dX9_feed_21 rfl ?_
    refine zv_cVv0_1 C dX9_feed_22 k_X9_lays l_X9_14 hL.1 rfl ⟨Nat.le_of_ble_eq_true rfl, Nat.le_of_ble_eq_true rfl⟩ ⟨rfl, rfl⟩ ⟨Nat.le_of_ble_eq_true rfl, Nat.le_of_ble_eq_true rfl⟩ rfl rfl ?_
    refine s_X9_lays hL (by rw [e0]; omega) (by rw [e0]; omega) ?_
    rw [e0, show FI 100 2 + 1 + 1 + 1 + 1 = FI 100 2 + 4 by omega]
    refine zv_aload_n C dX9_feed_25 rfl rfl ?_
    refine zv_iload_n C dX9_feed_26 rfl ?_
    refine zv_cVv0_1 C dX9_feed_27 k_X9_lays l_X9_14 hL.1 rfl ⟨Nat.le_of_ble_eq_true rfl, Nat.le_of_ble_eq_true rfl⟩ ⟨rfl, rfl⟩ ⟨Nat.le_of_ble_eq_true rfl, Nat.le_of_ble_eq_true rfl⟩ rfl rfl ?_
    refine s_X9_lays hL (by rw [zsF_eq]; omega) (by rw [zsF_eq]; omega) ?_
    rw [zsF_eq, zsF_zsF, show FI 100 2 + 4 + 1 + 1 + 1 + 1 = FI 100 2 + 8 by omega]
    refine zv_aload_n C dX9_feed_30 rfl rfl ?_
    refine zv_iload_n C dX9_feed_31 rfl ?_
    refine zv_cVv0_1 C dX9_feed_32 k_X9_lays l_X9_14 hL.1 rfl ⟨Nat.le_of_ble_eq_true rfl, Nat.le_of_ble_eq_true rfl⟩ ⟨rfl, rfl⟩ ⟨Nat.le_of_ble_eq_true rfl, Nat.le_of_ble_eq_true rfl⟩ rfl rfl ?_
    refine s_X9_lays hL (by rw [zsF_eq]; omega) (by rw [zsF_eq]; omega) ?_
    rw [zsF_eq, zsF_zsF, show FI 100 2 + 8 + 1 + 1 + 1 + 1 = FI 100 2 + 12 by omega]
    refine zv_aload_n C dX9_feed_35 rfl rfl ?_
    refine zv_iload C dX9_feed_36 rfl ?_
    refine zv_cVv0_1 C dX9_feed_38 k_X9_lays l_X9_14 hL.1 rfl ⟨Nat.le_of_ble_eq_true rfl, Nat.le_of_ble_eq_true rfl⟩ ⟨rfl, rfl⟩ ⟨Nat.le_of_ble_eq_true rfl, Nat.le_of_ble_eq_true rfl⟩ rfl rfl ?_
    refine s_X9_lays hL (by rw [zsF_eq]; omega) (by rw [zsF_eq]; omega) ?_
    rw [zsF_eq, zsF_zsF, show FI 100 2 + 12 + 1 + 1 + 1 + 1 = FI 100 2 + 16 by omega]
    refine zv_aload_n C dX9_feed_41 rfl rfl ?_
    refine zv_iload C dX9_feed_42 rfl ?_
    refine zv_cVv0_1 C dX9_feed_44 k_X9_lays l_X9_14 hL.1 rfl ⟨Nat.le_of_ble_eq_true rfl, Nat.le_of_ble_eq_true rfl⟩ ⟨rfl, rfl⟩ ⟨Nat.le_of_ble_eq_true rfl, Nat.le_of_ble_eq_true rfl⟩ rfl rfl ?_
    refine s_X9_lays hL (by rw [zsF_eq]; omega) (by rw [zsF_eq]; omega) ?_
    rw [zsF_eq, zsF_zsF, show FI 100 2 + 16 + 1 + 1 + 1 + 1 = FI 100 2 + 20 by omega]
    refine zv_aload_n C dX9_feed_47 rfl rfl ?_
    refine zv_getI C dX9_feed_48 f_X9_11 hL.1 rfl ?_
    try simp (disch := omega) only [zsF_eq, zsF_ne]
    refine zv_ireturn C dX9_feed_51 rfl rfl rfl rfl ?_
    exact h1 (by omega)
  · refine zv_iconst C dX9_feed_18 rfl ?_
    refine zv_ireturn C dX9_feed_19 rfl rfl rfl rfl ?_
    exact h0 (by omega)
