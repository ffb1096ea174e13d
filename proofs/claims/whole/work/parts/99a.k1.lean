/-! TEXTS that nobody writes: their length, their signs -/
theorem zBl0 : ∀ j : Nat, j < 13 → (zByt.getD j []).length ≤ 10 := by decide
theorem zBl {j : Nat} (h : j < 13) : (zByt.getD j []).length ≤ 10 := zBl0 j h
def zCh (j : Nat) (i : Int) : Int := ((zByt.getD j []).getD i.toNat 0).toInt
theorem zCh_b0 : ∀ j : Nat, j < 13 → ∀ i : Nat, i < 10 → 0 ≤ ((zByt.getD j []).getD i 0).toInt ∧ ((zByt.getD j []).getD i 0).toInt ≤ 122 := by decide +kernel
theorem zCh_b {j : Nat} {i : Int} (hj : j < 13) (h0 : 0 ≤ i) (h1 : i < (zByt.getD j []).length) : 0 ≤ zCh j i ∧ zCh j i ≤ 122 := zCh_b0 j hj i.toNat (by have := zBl hj; omega)
theorem zch_n0 : ∀ q : Nat, q < 256 → (Int32.ofInt (q : Int)).toUInt32.toUInt16.toUInt32.toInt32 = Int32.ofInt (q : Int) := by decide +kernel
theorem zch_n {x : Int} (h0 : 0 ≤ x) (h1 : x < 256) : narrow .char (.int (Int32.ofInt x)) = .int (Int32.ofInt x) := by
  have h := zch_n0 x.toNat (by omega)
  rw [show ((x.toNat : Nat) : Int) = x by omega] at h
  exact congrArg Value.int h
set_option maxRecDepth 20000 in
theorem s_J0_coder_7d493 {T : zTt} {FR : zFR} {AR : zAR} {FI : zFI} {AI : zAI} {Post : zPost} {j : Nat} (hj : j < 13) (hp : Post (zI 0) T FR AR FI AI) : zMet M_J0_coder_7d493 [zA (10 + j)] T FR AR FI AI Post := by
  refine zMet.of [some (zA (10 + j))] rfl rfl rfl (fun G C => ?_)
  refine zv_getsI (x := 1) (q := 9) C dJ0_coder_7d493_0 fs_J0_38 (fun sa => rfl) (by decide) ?_
  refine zv_if_eq C 13 dJ0_coder_7d493_3 rfl (fun h => absurd h (by omega)) (fun _ => ?_)
  refine zv_aload_n C dJ0_coder_7d493_6 rfl rfl ?_
  refine zv_getfAI (x := 0) C dJ0_coder_7d493_7 fs_J0_15 (zOF_coder hj) ⟨by omega, by omega⟩ rfl ?_
  refine zv_goto C 14 dJ0_coder_7d493_10 rfl ?_
  refine zv_ireturn C dJ0_coder_7d493_14 rfl rfl rfl rfl ?_
  exact hp
set_option maxRecDepth 20000 in
theorem s_J0_isLatin1_aae02 {T : zTt} {FR : zFR} {AR : zAR} {FI : zFI} {AI : zAI} {Post : zPost} {j : Nat} (hj : j < 13) (hp : Post (zI 1) T FR AR FI AI) : zMet M_J0_isLatin1_aae02 [zA (10 + j)] T FR AR FI AI Post := by
  refine zMet.of [some (zA (10 + j))] rfl rfl rfl (fun G C => ?_)
  refine zv_getsI (x := 1) (q := 9) C dJ0_isLatin1_aae02_0 fs_J0_38 (fun sa => rfl) (by decide) ?_
  refine zv_if_eq C 17 dJ0_isLatin1_aae02_3 rfl (fun h => absurd h (by omega)) (fun _ => ?_)
  refine zv_aload_n C dJ0_isLatin1_aae02_6 rfl rfl ?_
  refine zv_getfAI (x := 0) C dJ0_isLatin1_aae02_7 fs_J0_15 (zOF_coder hj) ⟨by omega, by omega⟩ rfl ?_
  refine zv_if_ne C 17 dJ0_isLatin1_aae02_10 rfl (fun h => absurd h (by omega)) (fun _ => ?_)
  refine zv_iconst C dJ0_isLatin1_aae02_13 rfl ?_
  refine zv_goto C 18 dJ0_isLatin1_aae02_14 rfl ?_
  refine zv_ireturn C dJ0_isLatin1_aae02_18 rfl rfl rfl rfl ?_
  exact hp
set_option maxRecDepth 20000 in
theorem s_J0_length_8abf5 {T : zTt} {FR : zFR} {AR : zAR} {FI : zFI} {AI : zAI} {Post : zPost} {j : Nat} (hj : j < 13) (hp : Post (zI ((zByt.getD j []).length : Nat)) T FR AR FI AI) : zMet M_J0_length_8abf5 [zA (10 + j)] T FR AR FI AI Post := by
  refine zMet.of [some (zA (10 + j))] rfl rfl rfl (fun G C => ?_)
  refine zv_aload_n C dJ0_length_8abf5_0 rfl rfl ?_
  refine zv_getfA (j := 30 + j) C dJ0_length_8abf5_1 fs_J0_9 (zOF_value hj) ?_
  refine zv_alenA C dJ0_length_8abf5_4 (zTS_byt hj) (by have := zBl hj; omega) ?_
  refine zv_aload_n C dJ0_length_8abf5_5 rfl rfl ?_
  refine zv_cAi0_0 C dJ0_length_8abf5_6 k_J0_coder_7d493 l_J0_335 (zOS_str hj) ⟨Nat.le_of_ble_eq_true rfl, Nat.le_of_ble_eq_true rfl⟩ ⟨rfl, rfl⟩ ⟨Nat.le_of_ble_eq_true rfl, Nat.le_of_ble_eq_true rfl⟩ rfl rfl ?_
  refine s_J0_coder_7d493 hj ?_
  refine zv_ishr C 0 dJ0_length_8abf5_9 rfl rfl ?_
  refine zv_ireturn C dJ0_length_8abf5_10 rfl rfl rfl rfl ?_
  refine zpost ?_ hp
  simp
set_option maxRecDepth 20000 in
theorem s_J3_checkIndexN {T : zTt} {FR : zFR} {AR : zAR} {FI : zFI} {AI : zAI} {Post : zPost} {i m : Int} (g0 : 0 ≤ i) (g1 : i < m) (hp : Post (zI i) T FR AR FI AI) : zMet M_J3_checkIndex_8e157 [zI i, zI m, zN] T FR AR FI AI Post := by
  refine zMet.of [some (zI i), some (zI m), some (zN)] rfl rfl rfl (fun G C => ?_)
  refine zv_iload_n C dJ3_checkIndex_8e157_0 rfl ?_
  refine zv_if_lt C 9 dJ3_checkIndex_8e157_1 rfl (fun h1 => absurd h1 (by omega)) (fun h1 => ?_)
  refine zv_iload_n C dJ3_checkIndex_8e157_4 rfl ?_
  refine zv_iload_n C dJ3_checkIndex_8e157_5 rfl ?_
  refine zv_icmp_lt C 16 dJ3_checkIndex_8e157_6 rfl (fun h6 => ?_) (fun h6 => absurd h6 (by omega))
  refine zv_iload_n C dJ3_checkIndex_8e157_16 rfl ?_
  refine zv_ireturn C dJ3_checkIndex_8e157_17 rfl rfl rfl rfl ?_
  exact hp
set_option maxRecDepth 20000 in
theorem s_J3_checkIndexA {T : zTt} {FR : zFR} {AR : zAR} {FI : zFI} {AI : zAI} {Post : zPost} {i m : Int} (g0 : 0 ≤ i) (g1 : i < m) (hp : Post (zI i) T FR AR FI AI) : zMet M_J3_checkIndex_8e157 [zI i, zI m, zA 9] T FR AR FI AI Post := by
  refine zMet.of [some (zI i), some (zI m), some (zA 9)] rfl rfl rfl (fun G C => ?_)
  refine zv_iload_n C dJ3_checkIndex_8e157_0 rfl ?_
  refine zv_if_lt C 9 dJ3_checkIndex_8e157_1 rfl (fun h1 => absurd h1 (by omega)) (fun h1 => ?_)
  refine zv_iload_n C dJ3_checkIndex_8e157_4 rfl ?_
  refine zv_iload_n C dJ3_checkIndex_8e157_5 rfl ?_
  refine zv_icmp_lt C 16 dJ3_checkIndex_8e157_6 rfl (fun h6 => ?_) (fun h6 => absurd h6 (by omega))
  refine zv_iload_n C dJ3_checkIndex_8e157_16 rfl ?_
  refine zv_ireturn C dJ3_checkIndex_8e157_17 rfl rfl rfl rfl ?_
  exact hp
set_option maxRecDepth 20000 in
theorem s_J0_checkIndex_df160 {T : zTt} {FR : zFR} {AR : zAR} {FI : zFI} {AI : zAI} {Post : zPost} {i m : Int} (g0 : 0 ≤ i) (g1 : i < m) (hp : Post (zI 0) T FR AR FI AI) : zMet M_J0_checkIndex_df160 [zI i, zI m] T FR AR FI AI Post := by
  refine zMet.of [some (zI i), some (zI m)] rfl rfl rfl (fun G C => ?_)
  refine zv_iload_n C dJ0_checkIndex_df160_0 rfl ?_
  refine zv_iload_n C dJ0_checkIndex_df160_1 rfl ?_
  refine zv_getsQ C dJ0_checkIndex_df160_2 fs_J0_1053 ?_ ?_
  · refine zv_cSi0_3 C dJ0_checkIndex_df160_5 k_J3_checkIndex_8e157 l_J0_1059 ⟨Nat.le_of_ble_eq_true rfl, Nat.le_of_ble_eq_true rfl⟩ ⟨rfl, rfl⟩ ⟨Nat.le_of_ble_eq_true rfl, Nat.le_of_ble_eq_true rfl⟩ rfl rfl ?_
    refine s_J3_checkIndexN g0 g1 ?_
    refine zv_pop C dJ0_checkIndex_df160_8 rfl ?_
    refine zv_return C dJ0_checkIndex_df160_9 rfl rfl rfl ?_
    exact hp
  · refine zv_cSi0_3 C dJ0_checkIndex_df160_5 k_J3_checkIndex_8e157 l_J0_1059 ⟨Nat.le_of_ble_eq_true rfl, Nat.le_of_ble_eq_true rfl⟩ ⟨rfl, rfl⟩ ⟨Nat.le_of_ble_eq_true rfl, Nat.le_of_ble_eq_true rfl⟩ rfl rfl ?_
    refine s_J3_checkIndexA g0 g1 ?_
    refine zv_pop C dJ0_checkIndex_df160_8 rfl ?_
    refine zv_return C dJ0_checkIndex_df160_9 rfl rfl rfl ?_
    exact hp
set_option maxRecDepth 20000 in
theorem s_J1_charAt_3b067 {T : zTt} {FR : zFR} {AR : zAR} {FI : zFI} {AI : zAI} {Post : zPost} {j : Nat} {i : Int} (hj : j < 13) (g0 : 0 ≤ i) (g1 : i < (zByt.getD j []).length) (hp : Post (zI (zCh j i)) T FR AR FI AI) : zMet M_J1_charAt_3b067 [zA (30 + j), zI i] T FR AR FI AI Post := by
  refine zMet.of [some (zA (30 + j)), some (zI i)] rfl rfl rfl (fun G C => ?_)
  have hc := zCh_b hj g0 g1
  refine zv_iload_n C dJ1_charAt_3b067_0 rfl ?_
  refine zv_aload_n C dJ1_charAt_3b067_1 rfl rfl ?_
  refine zv_alenA C dJ1_charAt_3b067_2 (zTS_byt hj) (by have := zBl hj; omega) ?_
  refine zv_cSv0_2 C dJ1_charAt_3b067_3 k_J0_checkIndex_df160 l_J1_9 ⟨Nat.le_of_ble_eq_true rfl, Nat.le_of_ble_eq_true rfl⟩ ⟨rfl, rfl⟩ ⟨Nat.le_of_ble_eq_true rfl, Nat.le_of_ble_eq_true rfl⟩ rfl rfl ?_
  refine s_J0_checkIndex_df160 g0 g1 ?_
  refine zv_aload_n C dJ1_charAt_3b067_6 rfl rfl ?_
  refine zv_iload_n C dJ1_charAt_3b067_7 rfl ?_
  refine zv_baloadA (x := zCh j i) C dJ1_charAt_3b067_8 (zTS_byt hj) ⟨g0, g1⟩ (fun sa => congrArg Value.int (Int32.ofInt_toInt _).symm) ⟨by omega, by omega⟩ ?_
  refine zv_sipush C dJ1_charAt_3b067_9 rfl ?_
  refine zv_iand C 8 dJ1_charAt_3b067_12 rfl ?_
  rw [show zCh j i % ((2 ^ 8 : Nat) : Int) = zCh j i from Int.emod_eq_of_lt (by omega) (by omega)]
  refine zv_i2c C dJ1_charAt_3b067_13 (by omega) (by omega) ?_
  refine zv_ireturn C dJ1_charAt_3b067_14 rfl (zch_n (by omega) (by omega)) rfl rfl ?_
  exact hp
set_option maxRecDepth 20000 in
theorem s_J0_charAt_5068e {T : zTt} {FR : zFR} {AR : zAR} {FI : zFI} {AI : zAI} {Post : zPost} {j : Nat} {i : Int} (hj : j < 13) (g0 : 0 ≤ i) (g1 : i < (zByt.getD j []).length) (hp : Post (zI (zCh j i)) T FR AR FI AI) : zMet M_J0_charAt_5068e [zA (10 + j), zI i] T FR AR FI AI Post := by
  refine zMet.of [some (zA (10 + j)), some (zI i)] rfl rfl rfl (fun G C => ?_)
  have hc := zCh_b hj g0 g1
  refine zv_aload_n C dJ0_charAt_5068e_0 rfl rfl ?_
  refine zv_cAi0_0 C dJ0_charAt_5068e_1 k_J0_isLatin1_aae02 l_J0_492 (zOS_str hj) ⟨Nat.le_of_ble_eq_true rfl, Nat.le_of_ble_eq_true rfl⟩ ⟨rfl, rfl⟩ ⟨Nat.le_of_ble_eq_true rfl, Nat.le_of_ble_eq_true rfl⟩ rfl rfl ?_
  refine s_J0_isLatin1_aae02 hj ?_
  refine zv_if_eq C 16 dJ0_charAt_5068e_4 rfl (fun h => absurd h (by omega)) (fun _ => ?_)
  refine zv_aload_n C dJ0_charAt_5068e_7 rfl rfl ?_
  refine zv_getfA (j := 30 + j) C dJ0_charAt_5068e_8 fs_J0_9 (zOF_value hj) ?_
  refine zv_iload_n C dJ0_charAt_5068e_11 rfl ?_
  refine zv_cSi0_2 C dJ0_charAt_5068e_12 k_J1_charAt_3b067 l_J0_495 ⟨Nat.le_of_ble_eq_true rfl, Nat.le_of_ble_eq_true rfl⟩ ⟨rfl, rfl⟩ ⟨Nat.le_of_ble_eq_true rfl, Nat.le_of_ble_eq_true rfl⟩ rfl rfl ?_
  refine s_J1_charAt_3b067 hj g0 g1 ?_
  refine zv_ireturn C dJ0_charAt_5068e_15 rfl (zch_n (by omega) (by omega)) rfl rfl ?_
  exact hp
set_option maxRecDepth 20000 in
theorem s_Jx29ce0_ordinal_8abf5 {T : zTt} {FR : zFR} {AR : zAR} {FI : zFI} {AI : zAI} {Post : zPost} {j : Nat} (hj : j < 7) (hp : Post (zI (j : Nat)) T FR AR FI AI) : zMet M_Jx29ce0_ordinal_8abf5 [zA j] T FR AR FI AI Post := by
  refine zMet.of [some (zA j)] rfl rfl rfl (fun G C => ?_)
  refine zv_aload_n C dJx29ce0_ordinal_8abf5_0 rfl rfl ?_
  refine zv_getfAI (x := (j : Nat)) C dJx29ce0_ordinal_8abf5_1 fs_Jx29ce0_7 (zOF_ord hj) ⟨by omega, by omega⟩ (Int32.ofInt_eq_ofNat.symm) ?_
  refine zv_ireturn C dJx29ce0_ordinal_8abf5_4 rfl rfl rfl rfl ?_
  exact hp
set_option maxRecDepth 20000 in
theorem s_X6_least {T : zTt} {FR : zFR} {AR : zAR} {FI : zFI} {AI : zAI} {Post : zPost} {B D : Nat} {c : Int} (hd : dLay T FR B D) (hp : Post (zI (if c = 83 then 1 else if c = 70 then 1 else if c = 76 then AI 4 2 else 0)) T FR AR FI AI) : zMet M_X6_least [zR 3, zI c] T FR AR FI AI Post := by
  refine zMet.of [some (zR 3), some (zI c)] rfl rfl rfl (fun G C => ?_)
  refine zv_iload_n C dX6_least_0 rfl ?_
  
  by_cases c1 : c = 70
  · refine zv_lookup (off := 35) C 36 dX6_least_1 (by decide) (by rw [c1]; rfl) rfl ?_
    refine zv_iconst C dX6_least_36 rfl ?_
    refine zv_ireturn C dX6_least_37 rfl rfl rfl rfl ?_
    refine zpost ?_ hp
    repeat (first | rw [if_pos (by omega)] | rw [if_neg (by omega)])
  by_cases c2 : c = 76
  · refine zv_lookup (off := 37) C 38 dX6_least_1 (by decide) (by rw [c2]; rfl) rfl ?_
    refine zv_aload_n C dX6_least_38 rfl rfl ?_
    refine zv_getR C dX6_least_39 f_X6_18 hd.2.2.2.1 rfl hd.2.2.2.2.2.2.2.2.2.2.2.2.2.2.2.2.1 ?_
    refine zv_iconst C dX6_least_42 rfl ?_
    refine zv_iaload C dX6_least_43 hd.2.2.2.2.1 ⟨by omega, by omega⟩ ?_
    refine zv_ireturn C dX6_least_44 rfl rfl rfl rfl ?_
    refine zpost ?_ hp
    repeat (first | rw [if_pos (by omega)] | rw [if_neg (by omega)])
  by_cases c3 : c = 83
  · refine zv_lookup (off := 35) C 36 dX6_least_1 (by decide) (by rw [c3]; rfl) rfl ?_
    refine zv_iconst C dX6_least_36 rfl ?_
    refine zv_ireturn C dX6_least_37 rfl rfl rfl rfl ?_
    refine zpost ?_ hp
    repeat (first | rw [if_pos (by omega)] | rw [if_neg (by omega)])
  refine zv_lookup (off := 44) C 45 dX6_least_1 (by decide) (by show (if (70 : Int) = c then (35 : Int) else if (76 : Int) = c then 37 else if (83 : Int) = c then 35 else 44) = 44; rw [if_neg (by omega), if_neg (by omega), if_neg (by omega)]) rfl ?_
  refine zv_iconst C dX6_least_45 rfl ?_
  refine zv_ireturn C dX6_least_46 rfl rfl rfl rfl ?_
  refine zpost ?_ hp
  repeat (first | rw [if_pos (by omega)] | rw [if_neg (by omega)])

