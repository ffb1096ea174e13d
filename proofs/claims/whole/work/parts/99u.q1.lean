set_option maxRecDepth 20000 in
theorem law_loop {nm : String} {G : zG} (C : zCx (M_law nm) zPF G) {b L : Nat} {xs : Nat → Int32} (S : zScr b L xs G) (E : zExs G) (Z : zLw b G) (iL : L ≤ 3072) : ∀ (d : Nat) (i : Int) (w5 w6 : Option zVal) (T : zTt) (FR : zFR) (AR : zAR) (FI : zFI) (AI : zAI) (B D : Nat) (k n : Nat), lR T FR AR FI AI B D → 0 ≤ i → i ≤ 3078 → (L : Int) - i < 6 * d → k + 29 * d ≤ 601024 → n + 979 * d ≤ 7293034 → zV G 23 [some (zA 99), some (zR 0), some (zR 100), some (zR 90), some (zI i), w5, w6] [] T FR AR FI AI k n := by
  intro d
  induction d with
  | zero =>
    intro i w5 w6 T FR AR FI AI B D k n h i0 i1 hd9 hk hn
    refine zv_iload C dL_law_23 rfl ?_
    refine zv_aload_n C dL_law_25 rfl rfl ?_
    refine zv_slen C S dL_law_26 ?_
    refine zv_bipush C dL_law_27 rfl ?_
    refine zv_isub C dL_law_29 ⟨by omega, by omega⟩ ?_
    refine zv_icmp_gt C 972 dL_law_30 rfl (fun h30 => ?_) (fun h30 => absurd h30 (by omega))
    refine zv_iconst C dL_law_972 rfl ?_
    exact zv_lawend C Z dL_law_973 (by omega) (by omega)
  | succ d ih =>
    intro i w5 w6 T FR AR FI AI B D k n h i0 i1 hd9 hk hn
    by_cases c9 : i + 6 ≤ L
    · have J : ∀ (w5 w6 : Option zVal) (T : zTt) (FR : zFR) (AR : zAR) (FI : zFI) (AI : zAI) (B D : Nat), lR T FR AR FI AI B D → zV G 966 [some (zA 99), some (zR 0), some (zR 100), some (zR 90), some (zI i), w5, w6] [] T FR AR FI AI (k + 29) (n + 979) := fun w5 w6 T FR AR FI AI B D h => by
        refine zv_iinc_4 C dL_law_966 rfl rfl ⟨by omega, by omega⟩ ?_
        refine zv_goto C 23 dL_law_969 rfl ?_
        exact ih (i + 6) w5 w6 T FR AR FI AI B D (k + 29) (n + 979) h (by omega) (by omega) (by omega) (by omega) (by omega)
      refine zv_iload C dL_law_23 rfl ?_
      refine zv_aload_n C dL_law_25 rfl rfl ?_
      refine zv_slen C S dL_law_26 ?_
      refine zv_bipush C dL_law_27 rfl ?_
      refine zv_isub C dL_law_29 ⟨by omega, by omega⟩ ?_
      refine zv_icmp_gt C 972 dL_law_30 rfl (fun h30 => absurd h30 (by omega)) (fun h30 => ?_)
      refine zv_aload_n C dL_law_33 rfl rfl ?_
      refine zv_iload C dL_law_34 rfl ?_
      refine zv_sld C S dL_law_36 ⟨by omega, by omega⟩ ?_
      refine zv_bipush C dL_law_37 rfl ?_
      refine zv_iand C 5 dL_law_39 rfl ?_
      generalize hv : sv xs i % ((2 ^ 5 : Nat) : Int) = v
      by_cases h40r : 0 ≤ v ∧ v ≤ 19
      · have h40s : v = 0 ∨ v = 1 ∨ v = 2 ∨ v = 3 ∨ v = 4 ∨ v = 5 ∨ v = 6 ∨ v = 7 ∨ v = 8 ∨ v = 9 ∨ v = 10 ∨ v = 11 ∨ v = 12 ∨ v = 13 ∨ v = 14 ∨ v = 15 ∨ v = 16 ∨ v = 17 ∨ v = 18 ∨ v = 19 := by omega
        rcases h40s with e | e | e | e | e | e | e | e | e | e | e | e | e | e | e | e | e | e | e | e
        · refine zv_tableIn C 136 dL_law_40 (by omega) (by omega) (by rw [e]; rfl) rfl ?_
          exact law_0 C S E h i0 c9 iL (by omega) (by omega) J
        · refine zv_tableIn C 209 dL_law_40 (by omega) (by omega) (by rw [e]; rfl) rfl ?_
          exact law_1 C S E h i0 c9 iL (by omega) (by omega) J
        · refine zv_tableIn C 234 dL_law_40 (by omega) (by omega) (by rw [e]; rfl) rfl ?_
          exact law_2 C S E h i0 c9 iL (by omega) (by omega) J
        · refine zv_tableIn C 247 dL_law_40 (by omega) (by omega) (by rw [e]; rfl) rfl ?_
          exact law_3 C S E h i0 c9 iL (by omega) (by omega) J
        · refine zv_tableIn C 260 dL_law_40 (by omega) (by omega) (by rw [e]; rfl) rfl ?_
          exact law_4 C S E h i0 c9 iL (by omega) (by omega) J
        · refine zv_tableIn C 285 dL_law_40 (by omega) (by omega) (by rw [e]; rfl) rfl ?_
          exact law_5 C S E h i0 c9 iL (by omega) (by omega) J
        · refine zv_tableIn C 353 dL_law_40 (by omega) (by omega) (by rw [e]; rfl) rfl ?_
          exact law_6 C S E h i0 c9 iL (by omega) (by omega) J
        · refine zv_tableIn C 421 dL_law_40 (by omega) (by omega) (by rw [e]; rfl) rfl ?_
          exact law_7 C S E h i0 c9 iL (by omega) (by omega) J
        · refine zv_tableIn C 458 dL_law_40 (by omega) (by omega) (by rw [e]; rfl) rfl ?_
          exact law_8 C S E h i0 c9 iL (by omega) (by omega) J
        · refine zv_tableIn C 507 dL_law_40 (by omega) (by omega) (by rw [e]; rfl) rfl ?_
          exact law_9 C S E h i0 c9 iL (by omega) (by omega) J
        · refine zv_tableIn C 544 dL_law_40 (by omega) (by omega) (by rw [e]; rfl) rfl ?_
          exact law_10 C S E h i0 c9 iL (by omega) (by omega) J
        · refine zv_tableIn C 593 dL_law_40 (by omega) (by omega) (by rw [e]; rfl) rfl ?_
          exact law_11 C S E h i0 c9 iL (by omega) (by omega) J
        · refine zv_tableIn C 642 dL_law_40 (by omega) (by omega) (by rw [e]; rfl) rfl ?_
          exact law_12 C S E h i0 c9 iL (by omega) (by omega) J
        · refine zv_tableIn C 679 dL_law_40 (by omega) (by omega) (by rw [e]; rfl) rfl ?_
          exact law_13 C S E h i0 c9 iL (by omega) (by omega) J
        · refine zv_tableIn C 728 dL_law_40 (by omega) (by omega) (by rw [e]; rfl) rfl ?_
          exact law_14 C S E h i0 c9 iL (by omega) (by omega) J
        · refine zv_tableIn C 777 dL_law_40 (by omega) (by omega) (by rw [e]; rfl) rfl ?_
          exact law_15 C S E h i0 c9 iL (by omega) (by omega) J
        · refine zv_tableIn C 866 dL_law_40 (by omega) (by omega) (by rw [e]; rfl) rfl ?_
          exact law_16 C S E h i0 c9 iL (by omega) (by omega) J
        · refine zv_tableIn C 891 dL_law_40 (by omega) (by omega) (by rw [e]; rfl) rfl ?_
          exact law_17 C S E h i0 c9 iL (by omega) (by omega) J
        · refine zv_tableIn C 940 dL_law_40 (by omega) (by omega) (by rw [e]; rfl) rfl ?_
          exact law_18 C S E h i0 c9 iL (by omega) (by omega) J
        · refine zv_tableIn C 953 dL_law_40 (by omega) (by omega) (by rw [e]; rfl) rfl ?_
          exact law_19 C S E h i0 c9 iL (by omega) (by omega) J
      · refine zv_tableOut C 966 dL_law_40 (by omega) rfl ?_
        exact zv_widen (by omega) (by omega) (J _ _ _ _ _ _ _ _ _ h)
    · refine zv_iload C dL_law_23 rfl ?_
      refine zv_aload_n C dL_law_25 rfl rfl ?_
      refine zv_slen C S dL_law_26 ?_
      refine zv_bipush C dL_law_27 rfl ?_
      refine zv_isub C dL_law_29 ⟨by omega, by omega⟩ ?_
      refine zv_icmp_gt C 972 dL_law_30 rfl (fun h30 => ?_) (fun h30 => absurd h30 (by omega))
      refine zv_iconst C dL_law_972 rfl ?_
      exact zv_lawend C Z dL_law_973 (by omega) (by omega)
