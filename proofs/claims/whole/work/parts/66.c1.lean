set_option maxRecDepth 20000 in
theorem s_X4_useEarliest {T : zTt} {FR : zFR} {AR : zAR} {FI : zFI} {AI : zAI} {Post : zPost} {t sum : Int} (hc : cLay T FR) (g0 : 0 ≤ t) (g1 : t ≤ 59) (g2 : 0 ≤ sum) (g3 : sum ≤ 2000000000) (hL : ∀ j : Int, t ≤ j → j ≤ 59 → 0 ≤ AI 13 j ∧ AI 13 j ≤ 1000000000) (hp : ∀ L : Int → Int, (∀ l : Int, t ≤ l → l ≤ 59 → zbk L t l = max 0 (zbk (AI 13) t l - sum)) → (∀ j : Int, t ≤ j → j ≤ 59 → 0 ≤ L j ∧ L j ≤ AI 13 j) → (∀ j : Int, j < t → L j = AI 13 j) → Post (zI 0) T FR AR FI (zrow AI 13 L)) : zMet M_X4_useEarliest [zR 5, zI t, zI sum] T FR AR FI AI Post := by
  refine zMet.of [some (zR 5), some (zI t), some (zI sum), none, none, none] rfl rfl rfl (fun G C => ?_)
  suffices lp : ∀ (d : Nat) (k r : Int) (a5 : Option zVal) (L : Int → Int), k + d = 60 → t ≤ k → zTk (AI 13) L t sum k r → zV G 5 [some (zR 5), some (zI t), some (zI sum), some (zI r), some (zI k), a5] [] T FR AR FI (zrow AI 13 L) 0 0 from by
    refine zv_iload_n C dX4_useEarliest_0 rfl ?_
    refine zv_istore_3 C dX4_useEarliest_1 rfl rfl ?_
    refine zv_iload_n C dX4_useEarliest_2 rfl ?_
    refine zv_istore_4 C dX4_useEarliest_3 rfl rfl ?_
    have q := lp (60 - t).toNat t sum none (AI 13) (by omega) (by omega) (zTk_0 g2 (fun j a b => (hL j a b).1))
    rw [zrow_self] at q
    exact q
  intro d
  induction d with
  | zero =>
    intro k r a5 L hk hk2 hT
    refine zv_iload C dX4_useEarliest_5 rfl ?_
    refine zv_aload_n C dX4_useEarliest_7 rfl rfl ?_
    refine zv_getR C dX4_useEarliest_8 f_X4_33 hc.1 rfl hc.2.2.2.2.2.2.2.2.2.2.2.2.2.2.2.2 ?_
    refine zv_alen C dX4_useEarliest_11 hc.2.2.2.2.2.2.2.2.1 rfl (by decide) ?_
    refine zv_icmp_ge C 55 dX4_useEarliest_12 rfl (fun h12 => ?_) (fun h12 => absurd h12 (by omega))
    refine zv_return C dX4_useEarliest_55 rfl rfl rfl ?_
    exact hp L (fun l a b => zTk_end g2 hT hk2 (Or.inr (by omega)) (fun j a b => (hL j a b).1) l a b) hT.2.2.2 (fun j hj => hT.1 j (Or.inl hj))
  | succ d ih =>
    intro k r a5 L hk hk2 hT
    have lb := hL k hk2 (by omega)
    have ek := hT.1 k (Or.inr (by omega))
    have rb := hT.2.2.1
    have q := ih (k + 1) _ (some (zI (min r (L k)))) _ (by omega) (by omega) (zTk_step g2 hT (fun j a b => (hL j a b).1) hk2 (by omega))
    have z0 : 0 ≤ zbk (AI 13) t (k - 1) := zbk_nn (fun j a b => (hL j a (by omega)).1)
    refine zv_iload C dX4_useEarliest_5 rfl ?_
    refine zv_aload_n C dX4_useEarliest_7 rfl rfl ?_
    refine zv_getR C dX4_useEarliest_8 f_X4_33 hc.1 rfl hc.2.2.2.2.2.2.2.2.2.2.2.2.2.2.2.2 ?_
    refine zv_alen C dX4_useEarliest_11 hc.2.2.2.2.2.2.2.2.1 rfl (by decide) ?_
    refine zv_icmp_ge C 55 dX4_useEarliest_12 rfl (fun h12 => absurd h12 (by omega)) (fun h12 => ?_)
    refine zv_iload_n C dX4_useEarliest_15 rfl ?_
    refine zv_if_le C 55 dX4_useEarliest_16 rfl (fun h16 => ?_) (fun h16 => ?_)
    · refine zv_return C dX4_useEarliest_55 rfl rfl rfl ?_
      exact hp L (fun l a b => zTk_end g2 hT hk2 (Or.inl (by omega)) (fun j a b => (hL j a b).1) l a b) hT.2.2.2 (fun j hj => hT.1 j (Or.inl hj))
    · refine zv_iload_n C dX4_useEarliest_19 rfl ?_
      refine zv_aload_n C dX4_useEarliest_20 rfl rfl ?_
      refine zv_getR C dX4_useEarliest_21 f_X4_33 hc.1 rfl hc.2.2.2.2.2.2.2.2.2.2.2.2.2.2.2.2 ?_
      refine zv_iload C dX4_useEarliest_24 rfl ?_
      refine zv_iaload C dX4_useEarliest_26 hc.2.2.2.2.2.2.2.2.1 ⟨by omega, by omega⟩ ?_
      rw [zrow_eq]
      refine zv_min C dX4_useEarliest_27 l_X4_89 mi_st ini_Math mi_cd (Nat.le_of_ble_eq_true rfl) (Nat.le_of_ble_eq_true rfl) ⟨Nat.le_of_ble_eq_true rfl, Nat.le_of_ble_eq_true rfl⟩ ?_
      refine zv_istore_5 C dX4_useEarliest_30 rfl rfl ?_
      refine zv_aload_n C dX4_useEarliest_32 rfl rfl ?_
      refine zv_getR C dX4_useEarliest_33 f_X4_33 hc.1 rfl hc.2.2.2.2.2.2.2.2.2.2.2.2.2.2.2.2 ?_
      refine zv_iload C dX4_useEarliest_36 rfl ?_
      refine zv_dup2 C dX4_useEarliest_38 rfl rfl ?_
      refine zv_iaload C dX4_useEarliest_39 hc.2.2.2.2.2.2.2.2.1 ⟨by omega, by omega⟩ ?_
      rw [zrow_eq]
      refine zv_iload C dX4_useEarliest_40 rfl ?_
      refine zv_isub C dX4_useEarliest_42 ⟨by omega, by omega⟩ ?_
      refine zv_iastore C dX4_useEarliest_43 hc.2.2.2.2.2.2.2.2.1 ⟨by omega, by omega⟩ ?_
      rw [zrow_set]
      refine zv_iload_n C dX4_useEarliest_44 rfl ?_
      refine zv_iload C dX4_useEarliest_45 rfl ?_
      refine zv_isub C dX4_useEarliest_47 ⟨by omega, by omega⟩ ?_
      refine zv_istore_3 C dX4_useEarliest_48 rfl rfl ?_
      refine zv_iinc_4 C dX4_useEarliest_49 rfl rfl ⟨by omega, by omega⟩ ?_
      refine zv_goto C 5 dX4_useEarliest_52 rfl ?_
      exact q

set_option maxRecDepth 20000 in
theorem s_X4_supposeRate {T : zTt} {FR : zFR} {AR : zAR} {FI : zFI} {AI : zAI} {Post : zPost} {fr r : Int} (hc : cLay T FR) (g0 : 0 ≤ fr) (g1 : fr ≤ 40) (hp : Post (zI 0) T FR AR FI (zfill AI 12 fr 40 r)) : zMet M_X4_supposeRate [zR 5, zI fr, zI r] T FR AR FI AI Post := by
  refine zMet.of [some (zR 5), some (zI fr), some (zI r), none] rfl rfl rfl (fun G C => ?_)
  refine zv_iload_n C dX4_supposeRate_0 rfl ?_
  refine zv_istore_3 C dX4_supposeRate_1 rfl rfl ?_
  suffices lp : ∀ (d : Nat) (y : Int), y + d = 40 → fr ≤ y → zV G 2 [some (zR 5), some (zI fr), some (zI r), some (zI y)] [] T FR AR FI (zfill AI 12 fr y r) 0 0 from by
    have q := lp (40 - fr).toNat fr (by omega) (by omega)
    rw [zfill_0] at q
    exact q
  intro d
  induction d with
  | zero =>
    intro y hj hf
    have ej : y = 40 := by omega
    subst ej
    refine zv_iload_n C dX4_supposeRate_2 rfl ?_
    refine zv_bipush C dX4_supposeRate_3 rfl ?_
    refine zv_icmp_ge C 21 dX4_supposeRate_5 rfl (fun h5 => ?_) (fun h5 => absurd h5 (by omega))
    refine zv_return C dX4_supposeRate_21 rfl rfl rfl ?_
    exact hp
  | succ d ih =>
    intro y hj hf
    have q := ih (y + 1) (by omega) (by omega)
    refine zv_iload_n C dX4_supposeRate_2 rfl ?_
    refine zv_bipush C dX4_supposeRate_3 rfl ?_
    refine zv_icmp_ge C 21 dX4_supposeRate_5 rfl (fun h5 => absurd h5 (by omega)) (fun h5 => ?_)
    refine zv_aload_n C dX4_supposeRate_8 rfl rfl ?_
    refine zv_getR C dX4_supposeRate_9 f_X4_30 hc.1 rfl hc.2.2.2.2.2.2.2.2.2.2.2.2.2.2.2.1 ?_
    refine zv_iload_n C dX4_supposeRate_12 rfl ?_
    refine zv_iload_n C dX4_supposeRate_13 rfl ?_
    refine zv_iastore C dX4_supposeRate_14 hc.2.2.2.2.2.2.2.1 ⟨by omega, by omega⟩ ?_
    rw [zfill_step (by omega)]
    refine zv_iinc_3 C dX4_supposeRate_15 rfl rfl ⟨by omega, by omega⟩ ?_
    refine zv_goto C 2 dX4_supposeRate_18 rfl ?_
    exact q

set_option maxRecDepth 20000 in
theorem s_X4_taxOn {T : zTt} {FR : zFR} {AR : zAR} {FI : zFI} {AI : zAI} {Post : zPost} {s : Nat} (hc : cLay T FR) (hs : T s = (2, 40)) (hS : ∀ j : Int, 0 ≤ j → j < 40 → (0 ≤ AI s j ∧ AI s j ≤ 4000000) ∧ (0 ≤ AI 12 j ∧ AI 12 j ≤ 900)) (hp : Post (zI (zS (fun i => AI s i * AI 12 i / 1000) 40)) T FR AR FI AI) : zMet M_X4_taxOn [zR 5, zR s] T FR AR FI AI Post := by
  refine zMet.of [some (zR 5), some (zR s), none, none, none] rfl rfl rfl (fun G C => ?_)
  generalize hf : (fun i => AI s i * AI 12 i / 1000) = f
  have hp2 : Post (zI (zS f 40)) T FR AR FI AI := by rw [← hf]; exact hp
  have fb : ∀ j : Nat, j < 40 → f j = AI s j * AI 12 j / 1000 ∧ 0 ≤ f j ∧ f j ≤ 3600000 ∧ 0 ≤ AI s j * AI 12 j ∧ AI s j * AI 12 j ≤ 4000000 * 900 := fun j hj => by
    have h1 := hS j (by omega) (by omega)
    have hx := ztx_b h1.1.1 h1.1.2 h1.2.1 h1.2.2 (by omega)
    have hm := zmulb h1.1.1 h1.1.2 h1.2.1 h1.2.2
    exact ⟨by rw [← hf], by rw [← hf]; exact hx.1, by rw [← hf]; exact hx.2, hm.1, hm.2⟩
  refine zv_lconst (x := 0) C dX4_taxOn_0 rfl ?_
  refine zv_lstore_2 C dX4_taxOn_1 rfl rfl ?_
  refine zv_iconst C dX4_taxOn_2 rfl ?_
  refine zv_istore_4 C dX4_taxOn_3 rfl rfl ?_
  suffices lp : ∀ d j : Nat, j + d = 40 → zV G 5 [some (zR 5), some (zR s), some (zL (zS f j)), none, some (zI (j : Int))] [] T FR AR FI AI 0 0 from lp 40 0 (by omega)
  intro d
  induction d with
  | zero =>
    intro j hj
    have ej : j = 40 := by omega
    subst ej
    have sb1 := zS_nn (f := f) 40 (fun i a b => by have := (fb i.toNat (by omega)).2.1; rwa [Int.toNat_of_nonneg a] at this)
    have sb2 := zS_ub (f := f) (c := 3600000) 40 (fun i a b => by have := (fb i.toNat (by omega)).2.2.1; rwa [Int.toNat_of_nonneg a] at this)
    refine zv_iload C dX4_taxOn_5 rfl ?_
    refine zv_bipush C dX4_taxOn_7 rfl ?_
    refine zv_icmp_ge C 46 dX4_taxOn_9 rfl (fun h9 => ?_) (fun h9 => absurd h9 (by omega))
    refine zv_lload_n C dX4_taxOn_46 rfl ?_
    refine zv_l2i C dX4_taxOn_47 ⟨by omega, by omega⟩ ?_
    refine zv_ireturn C dX4_taxOn_48 rfl rfl rfl rfl ?_
    exact hp2
  | succ d ih =>
    intro j hj
    have q := ih (j + 1) (by omega)
    rw [zS_t rfl] at q
    obtain ⟨f1, f2, f3, f4, f5⟩ := fb j (by omega)
    have sb1 := zS_nn (f := f) j (fun i a b => by have := (fb i.toNat (by omega)).2.1; rwa [Int.toNat_of_nonneg a] at this)
    have sb2 := zS_ub (f := f) (c := 3600000) j (fun i a b => by have := (fb i.toNat (by omega)).2.2.1; rwa [Int.toNat_of_nonneg a] at this)
    refine zv_iload C dX4_taxOn_5 rfl ?_
    refine zv_bipush C dX4_taxOn_7 rfl ?_
    refine zv_icmp_ge C 46 dX4_taxOn_9 rfl (fun h9 => absurd h9 (by omega)) (fun h9 => ?_)
    refine zv_iload C dX4_taxOn_12 rfl ?_
    refine zv_aload_n C dX4_taxOn_14 rfl rfl ?_
    refine zv_alen C dX4_taxOn_15 hs rfl (by decide) ?_
    refine zv_icmp_ge C 46 dX4_taxOn_16 rfl (fun h16 => absurd h16 (by omega)) (fun h16 => ?_)
    refine zv_lload_n C dX4_taxOn_19 rfl ?_
    refine zv_aload_n C dX4_taxOn_20 rfl rfl ?_
    refine zv_iload C dX4_taxOn_21 rfl ?_
    refine zv_iaload C dX4_taxOn_23 hs ⟨by omega, by omega⟩ ?_
    refine zv_i2l C dX4_taxOn_24 ?_
    refine zv_aload_n C dX4_taxOn_25 rfl rfl ?_
    refine zv_getR C dX4_taxOn_26 f_X4_30 hc.1 rfl hc.2.2.2.2.2.2.2.2.2.2.2.2.2.2.2.1 ?_
    refine zv_iload C dX4_taxOn_29 rfl ?_
    refine zv_iaload C dX4_taxOn_31 hc.2.2.2.2.2.2.2.1 ⟨by omega, by omega⟩ ?_
    refine zv_i2l C dX4_taxOn_32 ?_
    refine zv_lmul C dX4_taxOn_33 ⟨by omega, by omega⟩ ?_
    refine zv_ldc2 (x := 1000) C dX4_taxOn_34 c_X4_97 rfl ?_
    refine zv_ldiv C dX4_taxOn_37 (by omega) (by omega) ?_
    rw [← f1]
    refine zv_ladd C dX4_taxOn_38 ⟨by omega, by omega⟩ ?_
    refine zv_lstore_2 C dX4_taxOn_39 rfl rfl ?_
    refine zv_iinc_4 C dX4_taxOn_40 rfl rfl ⟨by omega, by omega⟩ ?_
    refine zv_goto C 5 dX4_taxOn_43 rfl ?_
    exact q

