theorem zcpA_ne {AI : zAI} {a b c : Nat} {sp dp m : Int} (h : c ≠ b) : zcpA AI a b sp dp m c = AI c := by
  funext j
  unfold zcpA
  exact if_neg (fun z => h z.1)
theorem zcpA_in {AI : zAI} {a b : Nat} {sp dp m j : Int} (h0 : dp ≤ j) (h1 : j < dp + m) : zcpA AI a b sp dp m b j = AI a (sp + (j - dp)) := by
  unfold zcpA
  exact if_pos ⟨rfl, h0, h1⟩
set_option maxRecDepth 20000 in
theorem s_X2_copyFrom {T : zTt} {FR : zFR} {AR : zAR} {FI : zFI} {AI : zAI} {Post : zPost} {B B2 : Nat} {N : Int → Int} (hB : bLay T FR B) (hB2 : bLay T FR B2) (hK : bk FI AI B2 N) (hb : N 2 ≤ 3 ∧ N 3 ≤ 30 ∧ N 4 ≤ 10) (hd : B + 5 ≤ B2 ∨ B2 + 5 ≤ B) (hp : ∀ (F1 : zFI) (A1 : zAI), bFr B FI F1 AI A1 → bk F1 A1 B N → Post (zI 0) T FR AR F1 A1) : zMet M_X2_copyFrom [zR B, zR B2] T FR AR FI AI Post := by
  refine zMet.of [some (zR B), some (zR B2)] rfl rfl rfl (fun G C => ?_)
  obtain ⟨k0, k1, k2, k3, k4, k5, k6, k7, k8⟩ := id hK
  refine zv_aload_n C dX2_copyFrom_0 rfl rfl ?_
  refine zv_getR C dX2_copyFrom_1 f_X2_9 hB2.1 rfl hB2.2.2.2.2.2.1 ?_
  refine zv_iconst C dX2_copyFrom_4 rfl ?_
  refine zv_aload_n C dX2_copyFrom_5 rfl rfl ?_
  refine zv_getR C dX2_copyFrom_6 f_X2_9 hB.1 rfl hB.2.2.2.2.2.1 ?_
  refine zv_iconst C dX2_copyFrom_9 rfl ?_
  refine zv_aload_n C dX2_copyFrom_10 rfl rfl ?_
  refine zv_getR C dX2_copyFrom_11 f_X2_9 hB.1 rfl hB.2.2.2.2.2.1 ?_
  refine zv_alen C dX2_copyFrom_14 hB.2.1 rfl (by decide) ?_
  refine zv_copyI C dX2_copyFrom_15 l_X2_40 nat_copy st_copy ini_System (Nat.le_of_ble_eq_true rfl) (Nat.le_of_ble_eq_true rfl) hB2.2.1 hB.2.1 (by omega) (by omega) (by omega) (by omega) (by omega) (by omega) ?_
  refine zv_aload_n C dX2_copyFrom_18 rfl rfl ?_
  refine zv_getR C dX2_copyFrom_19 f_X2_15 hB2.1 rfl hB2.2.2.2.2.2.2.1 ?_
  refine zv_iconst C dX2_copyFrom_22 rfl ?_
  refine zv_aload_n C dX2_copyFrom_23 rfl rfl ?_
  refine zv_getR C dX2_copyFrom_24 f_X2_15 hB.1 rfl hB.2.2.2.2.2.2.1 ?_
  refine zv_iconst C dX2_copyFrom_27 rfl ?_
  refine zv_aload_n C dX2_copyFrom_28 rfl rfl ?_
  refine zv_getR C dX2_copyFrom_29 f_X2_15 hB.1 rfl hB.2.2.2.2.2.2.1 ?_
  refine zv_alen C dX2_copyFrom_32 hB.2.2.1 rfl (by decide) ?_
  refine zv_copyI C dX2_copyFrom_33 l_X2_40 nat_copy st_copy ini_System (Nat.le_of_ble_eq_true rfl) (Nat.le_of_ble_eq_true rfl) hB2.2.2.1 hB.2.2.1 (by omega) (by omega) (by omega) (by omega) (by omega) (by omega) ?_
  refine zv_aload_n C dX2_copyFrom_36 rfl rfl ?_
  refine zv_getR C dX2_copyFrom_37 f_X2_18 hB2.1 rfl hB2.2.2.2.2.2.2.2.1 ?_
  refine zv_iconst C dX2_copyFrom_40 rfl ?_
  refine zv_aload_n C dX2_copyFrom_41 rfl rfl ?_
  refine zv_getR C dX2_copyFrom_42 f_X2_18 hB.1 rfl hB.2.2.2.2.2.2.2.1 ?_
  refine zv_iconst C dX2_copyFrom_45 rfl ?_
  refine zv_aload_n C dX2_copyFrom_46 rfl rfl ?_
  refine zv_getR C dX2_copyFrom_47 f_X2_18 hB.1 rfl hB.2.2.2.2.2.2.2.1 ?_
  refine zv_alen C dX2_copyFrom_50 hB.2.2.2.1 rfl (by decide) ?_
  refine zv_copyI C dX2_copyFrom_51 l_X2_40 nat_copy st_copy ini_System (Nat.le_of_ble_eq_true rfl) (Nat.le_of_ble_eq_true rfl) hB2.2.2.2.1 hB.2.2.2.1 (by omega) (by omega) (by omega) (by omega) (by omega) (by omega) ?_
  refine zv_aload_n C dX2_copyFrom_54 rfl rfl ?_
  refine zv_getR C dX2_copyFrom_55 f_X2_21 hB2.1 rfl hB2.2.2.2.2.2.2.2.2 ?_
  refine zv_iconst C dX2_copyFrom_58 rfl ?_
  refine zv_aload_n C dX2_copyFrom_59 rfl rfl ?_
  refine zv_getR C dX2_copyFrom_60 f_X2_21 hB.1 rfl hB.2.2.2.2.2.2.2.2 ?_
  refine zv_iconst C dX2_copyFrom_63 rfl ?_
  refine zv_aload_n C dX2_copyFrom_64 rfl rfl ?_
  refine zv_getR C dX2_copyFrom_65 f_X2_21 hB.1 rfl hB.2.2.2.2.2.2.2.2 ?_
  refine zv_alen C dX2_copyFrom_68 hB.2.2.2.2.1 rfl (by decide) ?_
  refine zv_copyI C dX2_copyFrom_69 l_X2_40 nat_copy st_copy ini_System (Nat.le_of_ble_eq_true rfl) (Nat.le_of_ble_eq_true rfl) hB2.2.2.2.2.1 hB.2.2.2.2.1 (by omega) (by omega) (by omega) (by omega) (by omega) (by omega) ?_
  refine zv_aload_n C dX2_copyFrom_72 rfl rfl ?_
  refine zv_aload_n C dX2_copyFrom_73 rfl rfl ?_
  refine zv_getI C dX2_copyFrom_74 f_X2_28 hB2.1 rfl ?_
  refine zv_putI C dX2_copyFrom_77 f_X2_28 hB.1 rfl ?_
  refine zv_aload_n C dX2_copyFrom_80 rfl rfl ?_
  refine zv_aload_n C dX2_copyFrom_81 rfl rfl ?_
  refine zv_getI C dX2_copyFrom_82 f_X2_31 hB2.1 rfl ?_
  try simp (disch := omega) only [zsF_eq, zsF_ne]
  refine zv_putI C dX2_copyFrom_85 f_X2_31 hB.1 rfl ?_
  refine zv_aload_n C dX2_copyFrom_88 rfl rfl ?_
  refine zv_aload_n C dX2_copyFrom_89 rfl rfl ?_
  refine zv_getI C dX2_copyFrom_90 f_X2_24 hB2.1 rfl ?_
  try simp (disch := omega) only [zsF_eq, zsF_ne]
  refine zv_putI C dX2_copyFrom_93 f_X2_24 hB.1 rfl ?_
  refine zv_aload_n C dX2_copyFrom_96 rfl rfl ?_
  refine zv_aload_n C dX2_copyFrom_97 rfl rfl ?_
  refine zv_getI C dX2_copyFrom_98 f_X2_34 hB2.1 rfl ?_
  try simp (disch := omega) only [zsF_eq, zsF_ne]
  refine zv_putI C dX2_copyFrom_101 f_X2_34 hB.1 rfl ?_
  refine zv_aload_n C dX2_copyFrom_104 rfl rfl ?_
  refine zv_aload_n C dX2_copyFrom_105 rfl rfl ?_
  refine zv_getI C dX2_copyFrom_106 f_X2_37 hB2.1 rfl ?_
  try simp (disch := omega) only [zsF_eq, zsF_ne]
  refine zv_putI C dX2_copyFrom_109 f_X2_37 hB.1 rfl ?_
  refine zv_return C dX2_copyFrom_112 rfl rfl rfl ?_
  refine hp _ _ ⟨fun o j a => ?_, fun a h => ?_⟩ ?_
  · simp (disch := omega) only [zsF_ne]
  · simp (disch := omega) only [zcpA_ne]
  · unfold bk
    simp (disch := omega) only [zsF_eq, zsF_ne]
    refine ⟨k0, k1, k2, k3, k4, fun o y a b c d => ?_, fun o y a b c d => ?_, fun i f a b c d => ?_, fun i f a b c d => ?_⟩
    · simp (disch := omega) only [zcpA_ne, zcpA_in]
      rw [← k5 o y a b c d]; congr 1; omega
    · simp (disch := omega) only [zcpA_ne, zcpA_in]
      rw [← k6 o y a b c d]; congr 1; omega
    · simp (disch := omega) only [zcpA_ne, zcpA_in]
      rw [← k7 i f a b c d]; congr 1; omega
    · simp (disch := omega) only [zcpA_ne, zcpA_in]
      rw [← k8 i f a b c d]; congr 1; omega
set_option maxRecDepth 20000 in
theorem s_X2_clear {T : zTt} {FR : zFR} {AR : zAR} {FI : zFI} {AI : zAI} {Post : zPost} {B : Nat} {N : Int → Int}  (hB : bLay T FR B) (hz : ∀ j : Int, 0 ≤ j → j < 1395 → N j = 0) (hp : ∀ (F1 : zFI) (A1 : zAI), bFr B FI F1 AI A1 → bk F1 A1 B N → Post (zI 0) T FR AR F1 A1) : zMet M_X2_clear [zR B] T FR AR FI AI Post := by
  refine zMet.of [some (zR B), none] rfl rfl rfl (fun G C => ?_)
  refine zv_iconst C dX2_clear_0 rfl ?_
  refine zv_istore_1 C dX2_clear_1 rfl rfl ?_
  suffices lp : ∀ (d : Nat) (y : Int), y + d = 120 → 0 ≤ y → zV G 2 [some (zR B), some (zI y)] [] T FR AR FI (zfill AI (B + 2) 0 y 0) 0 0 from by
    have q := lp 120 0 (by omega) (by omega)
    rw [zfill_0] at q
    exact q
  intro d
  induction d with
  | zero =>
    intro y hj hf
    have ej : y = 120 := by omega
    subst ej
    refine zv_iload_n C dX2_clear_2 rfl ?_
    refine zv_aload_n C dX2_clear_3 rfl rfl ?_
    refine zv_getR C dX2_clear_4 f_X2_15 hB.1 rfl hB.2.2.2.2.2.2.1 ?_
    refine zv_alen C dX2_clear_7 hB.2.2.1 rfl (by decide) ?_
    refine zv_icmp_ge C 24 dX2_clear_8 rfl (fun h8 => ?_) (fun h8 => absurd h8 (by omega))
    refine zv_aload_n C dX2_clear_24 rfl rfl ?_
    refine zv_iconst C dX2_clear_25 rfl ?_
    refine zv_putI C dX2_clear_26 f_X2_28 hB.1 rfl ?_
    refine zv_aload_n C dX2_clear_29 rfl rfl ?_
    refine zv_iconst C dX2_clear_30 rfl ?_
    refine zv_putI C dX2_clear_31 f_X2_31 hB.1 rfl ?_
    refine zv_aload_n C dX2_clear_34 rfl rfl ?_
    refine zv_iconst C dX2_clear_35 rfl ?_
    refine zv_putI C dX2_clear_36 f_X2_24 hB.1 rfl ?_
    refine zv_aload_n C dX2_clear_39 rfl rfl ?_
    refine zv_iconst C dX2_clear_40 rfl ?_
    refine zv_putI C dX2_clear_41 f_X2_34 hB.1 rfl ?_
    refine zv_aload_n C dX2_clear_44 rfl rfl ?_
    refine zv_iconst C dX2_clear_45 rfl ?_
    refine zv_putI C dX2_clear_46 f_X2_37 hB.1 rfl ?_
    refine zv_return C dX2_clear_49 rfl rfl rfl ?_
    refine hp _ _ ⟨fun o j a => ?_, fun a h => ?_⟩ ?_
    · simp (disch := omega) only [zsF_ne]
    · rw [zfill_neF (by omega)]
    · unfold bk
      simp (disch := omega) only [zsF_eq, zsF_ne]
      rw [hz 0 (by omega) (by omega), hz 1 (by omega) (by omega), hz 2 (by omega) (by omega), hz 3 (by omega) (by omega), hz 4 (by omega) (by omega)]
      refine ⟨rfl, rfl, rfl, rfl, rfl, fun o y a b c d => by omega, fun o y a b c d => ?_, fun i f a b c d => by omega, fun i f a b c d => by omega⟩
      rw [hz _ (by omega) (by omega), zfill_eqF]
      exact if_pos (by omega)
  | succ d ih =>
    intro y hj hf
    have q := ih (y + 1) (by omega) (by omega)
    refine zv_iload_n C dX2_clear_2 rfl ?_
    refine zv_aload_n C dX2_clear_3 rfl rfl ?_
    refine zv_getR C dX2_clear_4 f_X2_15 hB.1 rfl hB.2.2.2.2.2.2.1 ?_
    refine zv_alen C dX2_clear_7 hB.2.2.1 rfl (by decide) ?_
    refine zv_icmp_ge C 24 dX2_clear_8 rfl (fun h8 => absurd h8 (by omega)) (fun h8 => ?_)
    refine zv_aload_n C dX2_clear_11 rfl rfl ?_
    refine zv_getR C dX2_clear_12 f_X2_15 hB.1 rfl hB.2.2.2.2.2.2.1 ?_
    refine zv_iload_n C dX2_clear_15 rfl ?_
    refine zv_iconst C dX2_clear_16 rfl ?_
    refine zv_iastore C dX2_clear_17 hB.2.2.1 ⟨by omega, by omega⟩ ?_
    rw [zfill_step (by omega)]
    refine zv_iinc_1 C dX2_clear_18 rfl rfl ⟨by omega, by omega⟩ ?_
    refine zv_goto C 2 dX2_clear_21 rfl ?_
    exact q

theorem zu1_self {N : Int → Int} {i : Int} : zu1 N i (N i) = N := by
  funext j
  unfold zu1
  split
  · rename_i h; rw [h]
  · rfl
theorem bk_use {FI : zFI} {AI : zAI} {B : Nat} {N : Int → Int} {l x : Int} (h : bk FI AI B N) (hb : N 2 ≤ 3 ∧ N 3 ≤ 30 ∧ N 4 ≤ 10) (h0 : 0 ≤ l) (h1 : l < N 4) : bk FI (zsA AI (B + 4) (l * 4 + 3) x) B (zu1 N (395 + 4 * l + 3) x) := by
  have e4 : zu1 N (395 + 4 * l + 3) x 4 = N 4 := zu1_ne (by omega)
  have k4 := h.2.2.2.2.1
  have k8 := h.2.2.2.2.2.2.2.2
  refine bk_loss (q := l) h hb (by omega) h0 (by omega) (Or.inl e4) (fun j a b c d => zu1_ne (by omega)) (by rw [e4]; exact k4) (fun j _ _ => rfl) (fun a b c => zsA_neF (by omega)) (fun j c => zsA_nj (by omega)) (fun f c d => ?_) (by omega)
  by_cases e : f = 3
  · rw [e, zsA_eq, zu1_eq]
  · rw [zsA_nj (by omega), zu1_ne (by omega)]; exact k8 l f h0 h1 c d
/-- nothing is left ahead of place (t, l) -/
def zAh (N : Int → Int) (nL : Nat) (o y t l : Int) : Prop := ∀ q : Int, 0 ≤ q → q < nL → mEl N o y q = 1 → (mLs N q < t ∨ (mLs N q = t ∧ q < l)) → mLf N q ≤ 0
theorem zAh_use {N : Int → Int} {nL : Nat} {o y t l x : Int} (h : zAh N nL o y t l) (hl : 0 ≤ l) (hx : mEl N o y l = 1 → mLs N l ≤ t → x ≤ 0) : zAh (zu1 N (395 + 4 * l + 3) x) nL o y t (l + 1) := fun q a b c d => by
  have e1 : mEl (zu1 N (395 + 4 * l + 3) x) o y q = mEl N o y q := by
    unfold mEl
    rw [zu1_ne (by omega), zu1_ne (by omega)]
  have e2 : mLs (zu1 N (395 + 4 * l + 3) x) q = mLs N q := zu1_ne (by omega)
  rw [e1] at c
  rw [e2] at d
  by_cases e : q = l
  · subst e
    show zu1 N (395 + 4 * q + 3) x (395 + 4 * q + 3) ≤ 0
    rw [zu1_eq]
    exact hx c (by omega)
  · show zu1 N (395 + 4 * l + 3) x (395 + 4 * q + 3) ≤ 0
    rw [zu1_ne (by omega)]
    exact h q a b c (by omega)
theorem zAh_next {N : Int → Int} {nL : Nat} {o y t : Int} (h : zAh N nL o y t nL) : zAh N nL o y (t + 1) 0 := fun q a b c d => h q a b c (by omega)
set_option maxRecDepth 20000 in
theorem s_X2_useLosses {T : zTt} {FR : zFR} {AR : zAR} {FI : zFI} {AI : zAI} {Post : zPost} {B : Nat} {N : Int → Int} {nI nL : Nat} {o inc : Int} (hB : bLay T FR B) (hK : bk FI AI B N) (hW : mW N nI nL) (gi : 0 < inc) (gi2 : inc ≤ 4000000) (hp : ∀ (A1 : zAI) (N2 : Int → Int), bFr B FI FI AI A1 → bk FI A1 B N2 → zUsd N N2 nL (mLeft N nL o (N 0) inc) → Post (zI 0) T FR AR FI A1) : zMet M_X2_useLosses [zR B, zI o, zI inc] T FR AR FI AI Post := by
  refine zMet.of [some (zR B), some (zI o), some (zI inc), none, none, none, none] rfl rfl rfl (fun G C => ?_)
  obtain ⟨k0, k1, k2, k3, k4, k5, k6, k7, k8⟩ := id hK
  obtain ⟨w0, w1, w2, w3, w4, w5, w6, w7, w8, w9⟩ := id hW
  have hnn : ∀ l : Int, 0 ≤ l → l < nL → 0 ≤ mLf N l := fun l a c => (w9 l a c).2.2.2.1
  suffices lp : ∀ (d : Nat) (t u : Int) (a5 a6 : Option zVal) (A : zAI) (N2 : Int → Int), t + d = 40 → N 0 ≤ t → 0 ≤ u → u ≤ inc → bFr B FI FI AI A → bk FI A B N2 → zBr N N2 nL o (N 0) u → (u = inc ∨ zAh N2 nL o (N 0) t 0) → zV G 8 [some (zR B), some (zI o), some (zI inc), some (zI (inc - u)), some (zI t), a5, a6] [] T FR AR FI A 0 0 from by
    refine zv_iload_n C dX2_useLosses_0 rfl ?_
    refine zv_istore_3 C dX2_useLosses_1 rfl rfl ?_
    refine zv_aload_n C dX2_useLosses_2 rfl rfl ?_
    refine zv_getI C dX2_useLosses_3 f_X2_28 hB.1 rfl ?_
    rw [k0]
    refine zv_istore_4 C dX2_useLosses_6 rfl rfl ?_
    have q := lp (40 - N 0).toNat (N 0) 0 none none AI N (by omega) (by omega) (by omega) (by omega) bFr.rfl hK (zBr_0 hnn) (Or.inr (fun q a b c d => ?_))
    · rw [Int.sub_zero] at q
      exact q
    · unfold mEl at c
      unfold mLs at d
      split at c <;> omega
  intro d
  induction d with
  | zero =>
    intro t u a5 a6 A N2 hd ht hu0 hu1 hf hk2 hBr hah
    have et : t = 40 := by omega
    subst et
    refine zv_iload C dX2_useLosses_8 rfl ?_
    refine zv_bipush C dX2_useLosses_10 rfl ?_
    refine zv_icmp_gt C 79 dX2_useLosses_12 rfl (fun h12 => ?_) (fun h12 => absurd h12 (by omega))
    refine zv_return C dX2_useLosses_79 rfl rfl rfl ?_
    refine hp A N2 hf hk2 (zBr_end (b := -1) hnn hBr (by omega) ?_)
    rcases hah with z | z
    · exact Or.inl z
    · refine Or.inr ⟨rfl, Or.inl ⟨rfl, fun q a c e => ?_⟩⟩
      have z1 := z q a c e.1 (Or.inl ?_)
      · omega
      · have g := (zBr_at hBr a c).2.1
        rw [g]
        have z9 : N (395 + 4 * q + 2) ≤ 39 := (w9 q a c).2.2.1.2
        show N (395 + 4 * q + 2) < 40
        omega
  | succ d ih =>
    intro t u a5 a6 A N2 hd ht hu0 hu1 hf hk2 hBr hah
    suffices lp2 : u < inc → ∀ (d : Nat) (l : Nat) (u : Int) (a6 : Option zVal) (A : zAI) (N2 : Int → Int), l + d = nL → 0 ≤ u → u ≤ inc → bFr B FI FI AI A → bk FI A B N2 → zBr N N2 nL o (N 0) u → (u = inc ∨ zAh N2 nL o (N 0) t l) → zV G 22 [some (zR B), some (zI o), some (zI inc), some (zI (inc - u)), some (zI t), some (zI (l : Int)), a6] [] T FR AR FI A 0 0 from by
      refine zv_iload C dX2_useLosses_8 rfl ?_
      refine zv_bipush C dX2_useLosses_10 rfl ?_
      refine zv_icmp_gt C 79 dX2_useLosses_12 rfl (fun h12 => absurd h12 (by omega)) (fun h12 => ?_)
      refine zv_iload_n C dX2_useLosses_15 rfl ?_
      refine zv_if_le C 79 dX2_useLosses_16 rfl (fun h16 => ?_) (fun h16 => ?_)
      · refine zv_return C dX2_useLosses_79 rfl rfl rfl ?_
        have eu : u = inc := by omega
        exact hp A N2 hf hk2 (zBr_end (b := 0) hnn hBr (by omega) (Or.inl eu))
      · refine zv_iconst C dX2_useLosses_19 rfl ?_
        refine zv_istore_5 C dX2_useLosses_20 rfl rfl ?_
        exact lp2 (by omega) nL 0 u _ A N2 (by omega) hu0 hu1 hf hk2 hBr hah
    intro hlt d2
    induction d2 with
    | zero =>
      intro l u a6 A N2 hl hu0 hu1 hf hk2 hBr hah
      have el : l = nL := by omega
      subst el
      refine zv_iload C dX2_useLosses_22 rfl ?_
      refine zv_aload_n C dX2_useLosses_24 rfl rfl ?_
      refine zv_getI C dX2_useLosses_25 f_X2_37 hB.1 rfl ?_
      rw [hk2.2.2.2.2.1, hBr.1.2 4 (fun q _ _ => by omega)]
      refine zv_icmp_ge C 73 dX2_useLosses_28 rfl (fun h28 => ?_) (fun h28 => absurd h28 (by omega))
      refine zv_iinc_4 C dX2_useLosses_73 rfl rfl ⟨by omega, by omega⟩ ?_
      refine zv_goto C 8 dX2_useLosses_76 rfl ?_
      exact ih (t + 1) u _ _ A N2 (by omega) (by omega) hu0 hu1 hf hk2 hBr (hah.elim Or.inl (fun z => Or.inr (zAh_next z)))
    | succ d2 ih2 =>
      intro l u a6 A N2 hl hu0 hu1 hf hk2 hBr hah
      have e2 : N2 2 = N 2 := hBr.1.2 2 (fun q _ _ => by omega)
      have e3 : N2 3 = N 3 := hBr.1.2 3 (fun q _ _ => by omega)
      have e4 : N2 4 = N 4 := hBr.1.2 4 (fun q _ _ => by omega)
      have k8' := hk2.2.2.2.2.2.2.2.2 l 3 (by omega) (by omega) (by omega) (by omega)
      obtain ⟨q1, q2, q3⟩ := zBr_at hBr (l := (l : Int)) (by omega) (by omega)
      have q4 := ztk_b (el := mEl N o (N 0)) (ls := mLs N) (nL := nL) (u := u) (hnn l (by omega) (by omega))
      obtain ⟨-, q7, -, q8⟩ := w9 l (by omega) (by omega)
      have q6 : mLf N l = mLo N l 3 := rfl
      have lb : 0 ≤ N2 (395 + 4 * l + 3) ∧ N2 (395 + 4 * l + 3) ≤ 3000000 := by
        show 0 ≤ mLf N2 l ∧ mLf N2 l ≤ 3000000
        rw [q3]
        unfold mLeft
        omega
      generalize hv : (if N2 (395 + 4 * (l : Int) + 0) = o ∧ N2 (395 + 4 * (l : Int) + 2) = t then N2 (395 + 4 * (l : Int) + 3) else 0) = v
      have vb : 0 ≤ v ∧ v ≤ N2 (395 + 4 * (l : Int) + 3) := by rw [← hv]; split <;> omega
      refine zv_iload C dX2_useLosses_22 rfl ?_
      refine zv_aload_n C dX2_useLosses_24 rfl rfl ?_
      refine zv_getI C dX2_useLosses_25 f_X2_37 hB.1 rfl ?_
      rw [hk2.2.2.2.2.1, hBr.1.2 4 (fun q _ _ => by omega)]
      refine zv_icmp_ge C 73 dX2_useLosses_28 rfl (fun h28 => absurd h28 (by omega)) (fun h28 => ?_)
      refine zv_iload_n C dX2_useLosses_31 rfl ?_
      refine zv_aload_n C dX2_useLosses_32 rfl rfl ?_
      refine zv_iload C dX2_useLosses_33 rfl ?_
      refine zv_iload_n C dX2_useLosses_35 rfl ?_
      refine zv_iload C dX2_useLosses_36 rfl ?_
      refine zv_cVi0_3 C dX2_useLosses_38 k_X2_leftOf l_X2_54 hB.1 rfl ⟨Nat.le_of_ble_eq_true rfl, Nat.le_of_ble_eq_true rfl⟩ ⟨rfl, rfl⟩ ⟨Nat.le_of_ble_eq_true rfl, Nat.le_of_ble_eq_true rfl⟩ rfl rfl ?_
      refine s_X2_leftOf hB hk2 (by omega) (by omega) (by omega) ?_
      rw [hv]
      refine zv_min C dX2_useLosses_41 l_X2_73 mi_st ini_Math mi_cd (Nat.le_of_ble_eq_true rfl) (Nat.le_of_ble_eq_true rfl) ⟨Nat.le_of_ble_eq_true rfl, Nat.le_of_ble_eq_true rfl⟩ ?_
      refine zv_istore_6 C dX2_useLosses_44 rfl rfl ?_
      refine zv_aload_n C dX2_useLosses_46 rfl rfl ?_
      refine zv_getR C dX2_useLosses_47 f_X2_21 hB.1 rfl hB.2.2.2.2.2.2.2.2 ?_
      refine zv_iload C dX2_useLosses_50 rfl ?_
      refine zv_iconst C dX2_useLosses_52 rfl ?_
      refine zv_imul C dX2_useLosses_53 ⟨by omega, by omega⟩ ?_
      refine zv_iconst C dX2_useLosses_54 rfl ?_
      refine zv_iadd C dX2_useLosses_55 ⟨by omega, by omega⟩ ?_
      refine zv_dup2 C dX2_useLosses_56 rfl rfl ?_
      refine zv_iaload C dX2_useLosses_57 hB.2.2.2.2.1 ⟨by omega, by omega⟩ ?_
      rw [k8']
      refine zv_iload C dX2_useLosses_58 rfl ?_
      refine zv_isub C dX2_useLosses_60 ⟨by omega, by omega⟩ ?_
      refine zv_iastore C dX2_useLosses_61 hB.2.2.2.2.1 ⟨by omega, by omega⟩ ?_
      refine zv_iload_n C dX2_useLosses_62 rfl ?_
      refine zv_iload C dX2_useLosses_63 rfl ?_
      refine zv_isub C dX2_useLosses_65 ⟨by omega, by omega⟩ ?_
      refine zv_istore_3 C dX2_useLosses_66 rfl rfl ?_
      refine zv_iinc_5 C dX2_useLosses_67 rfl rfl ⟨by omega, by omega⟩ ?_
      refine zv_goto C 22 dX2_useLosses_70 rfl ?_
      have hb2 : N2 2 ≤ 3 ∧ N2 3 ≤ 30 ∧ N2 4 ≤ 10 := by omega
      have hk3 := bk_use (x := N2 (395 + 4 * (l : Int) + 3) - min (inc - u) v) hk2 hb2 (l := (l : Int)) (by omega) (by omega)
      rw [show inc - u - min (inc - u) v = inc - (u + min (inc - u) v) by omega]
      refine ih2 (l + 1) (u + min (inc - u) v) _ _ _ (by omega) (by omega) (by omega) (hf.setA ⟨by omega, by omega⟩) hk3 ?_ ?_
      · by_cases c0 : min (inc - u) v = 0
        · rw [c0, Int.sub_zero, zu1_self, Int.add_zero]
          exact hBr
        · have hc : N2 (395 + 4 * (l : Int) + 0) = o ∧ N2 (395 + 4 * (l : Int) + 2) = t := by
            by_cases c : N2 (395 + 4 * (l : Int) + 0) = o ∧ N2 (395 + 4 * (l : Int) + 2) = t
            · exact c
            · rw [if_neg c] at hv; omega
          rw [if_pos hc] at hv
          have el : mEl N2 o (N 0) l = 1 := if_pos ⟨hc.1, by omega⟩
          have hn : zNb N2 o (N 0) nL (l : Int) := by
            refine Or.inr ⟨by omega, by omega, el, (show 0 < N2 (395 + 4 * (l : Int) + 3) by omega), fun q a b c e => ?_⟩
            rcases hah with z | z
            · omega
            · have z1 := z q a b c
              have z2 : mLs N2 l = t := hc.2
              rw [z2]
              by_cases g : mLs N2 q < t ∨ (mLs N2 q = t ∧ q < l)
              · have := z1 g; omega
              · omega
          exact zBr_step hnn hBr hn (by omega) (by omega) (show min (inc - u) v ≤ N2 (395 + 4 * (l : Int) + 3) by omega)
      · by_cases c0 : inc - u ≤ v
        · exact Or.inl (by omega)
        · rcases hah with z | z
          · exact Or.inl (by omega)
          · refine Or.inr ?_
            rw [show ((l + 1 : Nat) : Int) = (l : Int) + 1 by omega]
            refine zAh_use z (by omega) (fun g1 g2 => ?_)
            have g5 := z (l : Int) (by omega) (by omega) g1
            have g6 : mLf N2 l = N2 (395 + 4 * (l : Int) + 3) := rfl
            have g7 : mLs N2 l = N2 (395 + 4 * (l : Int) + 2) := rfl
            by_cases c9 : mLs N2 l = t
            · have hc : N2 (395 + 4 * (l : Int) + 0) = o ∧ N2 (395 + 4 * (l : Int) + 2) = t := by
                unfold mEl at g1
                split at g1
                · rename_i g3; exact ⟨g3.1, by omega⟩
                · omega
              rw [if_pos hc] at hv
              omega
            · have := g5 (by omega)
              omega

set_option maxRecDepth 20000 in
theorem s_X2_settleIncome {T : zTt} {FR : zFR} {AR : zAR} {FI : zFI} {AI : zAI} {Post : zPost} {B : Nat} {N : Int → Int} {nI nL : Nat} {o inc : Int} (hB : bLay T FR B) (hK : bk FI AI B (nB1 N nI o)) (hW : mW N nI nL) (g0 : 0 ≤ o) (g1 : o < 3) (gi : inc = mInc N nI o) (hp : ∀ (F1 : zFI) (A1 : zAI), bFr B FI F1 AI A1 → bk F1 A1 B (nBears N nI nL o) → Post (zI 0) T FR AR F1 A1) : zMet M_X2_settleIncome [zR B, zI o, zI inc] T FR AR FI AI Post := by
  refine zMet.of [some (zR B), some (zI o), some (zI inc)] rfl rfl rfl (fun G C => ?_)
  obtain ⟨k0, k1, k2, k3, k4, k5, k6, k7, k8⟩ := id hK
  obtain ⟨w0, w1, w2, w3, w4, w5, w6, w7, w8, w9⟩ := id hW
  have ib := mInc_b hW g0 g1
  have hS := nB1_same (N := N) (nI := nI) (o := o) g0 w0.1
  have hW1 := mW_c hS hW
  have e0 : nB1 N nI o 0 = N 0 := hS 0 (by omega) (by omega)
  have e1 : nB1 N nI o 1 = N 1 := hS 1 (by omega) (by omega)
  have e2 : nB1 N nI o 2 = N 2 := hS 2 (by omega) (by omega)
  have e3 : nB1 N nI o 3 = N 3 := hS 3 (by omega) (by omega)
  have e4 : nB1 N nI o 4 = N 4 := hS 4 (by omega) (by omega)
  have hpA : mInc N nI o < 0 → 0 < N 1 → N 4 < 10 → nBears N nI nL o = nLoss (nB1 N nI o) o (-(mInc N nI o)) (if N 0 + N 1 < 40 then N 0 + N 1 else 39) := fun a b c => if_pos ⟨a, b, c⟩
  have hpB : mInc N nI o ≤ 0 → (mInc N nI o = 0 ∨ N 1 ≤ 0 ∨ 10 ≤ N 4) → nBears N nI nL o = nB1 N nI o := fun a b => by
    unfold nBears
    rw [if_neg (fun z => by have z1 := z.1; have z2 := z.2.1; have z3 := z.2.2; omega), if_neg (by omega)]
  have hpC : 0 < mInc N nI o → nBears N nI nL o = nUse (nB1 N nI o) nL (mLeft (nB1 N nI o) nL o (N 0) (mInc N nI o)) := fun a => by
    unfold nBears
    rw [if_neg (fun z => by have z1 := z.1; omega), if_pos a]
  refine zv_iload_n C dX2_settleIncome_0 rfl ?_
  refine zv_if_le C 13 dX2_settleIncome_1 rfl (fun h1 => ?_) (fun h1 => ?_)
  · refine zv_iload_n C dX2_settleIncome_13 rfl ?_
    refine zv_if_ge C 55 dX2_settleIncome_14 rfl (fun h14 => ?_) (fun h14 => ?_)
    · refine zv_return C dX2_settleIncome_55 rfl rfl rfl ?_
      first
      | exact hp FI AI bFr.rfl (by rw [hpB (by omega) (by omega)]; exact hK)
      | (refine hp FI A1 f1 ?_
         rw [hpC (by omega), ← gi, ← e0, ← zUsd_eq uu]
         exact kk)
      | (refine hp F1 A1 f1 ?_
         rw [hpA (by omega) (by omega) (by omega), ← gi]
         have em : min (N 0 + N 1) 39 = if N 0 + N 1 < 40 then N 0 + N 1 else 39 := by split <;> omega
         rw [em] at kk
         exact kk)
    · refine zv_aload_n C dX2_settleIncome_17 rfl rfl ?_
      refine zv_getI C dX2_settleIncome_18 f_X2_31 hB.1 rfl ?_
      refine zv_if_le C 55 dX2_settleIncome_21 rfl (fun h21 => ?_) (fun h21 => ?_)
      · refine zv_return C dX2_settleIncome_55 rfl rfl rfl ?_
        first
        | exact hp FI AI bFr.rfl (by rw [hpB (by omega) (by omega)]; exact hK)
        | (refine hp FI A1 f1 ?_
           rw [hpC (by omega), ← gi, ← e0, ← zUsd_eq uu]
           exact kk)
        | (refine hp F1 A1 f1 ?_
           rw [hpA (by omega) (by omega) (by omega), ← gi]
           have em : min (N 0 + N 1) 39 = if N 0 + N 1 < 40 then N 0 + N 1 else 39 := by split <;> omega
           rw [em] at kk
           exact kk)
      · refine zv_aload_n C dX2_settleIncome_24 rfl rfl ?_
        refine zv_getI C dX2_settleIncome_25 f_X2_37 hB.1 rfl ?_
        refine zv_bipush C dX2_settleIncome_28 rfl ?_
        refine zv_icmp_ge C 55 dX2_settleIncome_30 rfl (fun h30 => ?_) (fun h30 => ?_)
        · refine zv_return C dX2_settleIncome_55 rfl rfl rfl ?_
          first
          | exact hp FI AI bFr.rfl (by rw [hpB (by omega) (by omega)]; exact hK)
          | (refine hp FI A1 f1 ?_
             rw [hpC (by omega), ← gi, ← e0, ← zUsd_eq uu]
             exact kk)
          | (refine hp F1 A1 f1 ?_
             rw [hpA (by omega) (by omega) (by omega), ← gi]
             have em : min (N 0 + N 1) 39 = if N 0 + N 1 < 40 then N 0 + N 1 else 39 := by split <;> omega
             rw [em] at kk
             exact kk)
        · refine zv_aload_n C dX2_settleIncome_33 rfl rfl ?_
          refine zv_iload_n C dX2_settleIncome_34 rfl ?_
          refine zv_iload_n C dX2_settleIncome_35 rfl ?_
          refine zv_ineg C dX2_settleIncome_36 ⟨by omega, by omega⟩ ?_
          refine zv_aload_n C dX2_settleIncome_37 rfl rfl ?_
          refine zv_getI C dX2_settleIncome_38 f_X2_28 hB.1 rfl ?_
          rw [k0, e0]
          refine zv_aload_n C dX2_settleIncome_41 rfl rfl ?_
          refine zv_getI C dX2_settleIncome_42 f_X2_31 hB.1 rfl ?_
          rw [k1, e1]
          refine zv_iadd C dX2_settleIncome_45 ⟨by omega, by omega⟩ ?_
          refine zv_bipush C dX2_settleIncome_46 rfl ?_
          refine zv_min C dX2_settleIncome_48 l_X2_73 mi_st ini_Math mi_cd (Nat.le_of_ble_eq_true rfl) (Nat.le_of_ble_eq_true rfl) ⟨Nat.le_of_ble_eq_true rfl, Nat.le_of_ble_eq_true rfl⟩ ?_
          refine zv_cVi0_3 C dX2_settleIncome_51 k_X2_addLoss l_X2_78 hB.1 rfl ⟨Nat.le_of_ble_eq_true rfl, Nat.le_of_ble_eq_true rfl⟩ ⟨rfl, rfl⟩ ⟨Nat.le_of_ble_eq_true rfl, Nat.le_of_ble_eq_true rfl⟩ rfl rfl ?_
          refine s_X2_addLoss hB hK (by omega) (fun F1 A1 f1 kk => ?_)
          refine zv_pop C dX2_settleIncome_54 rfl ?_
          refine zv_return C dX2_settleIncome_55 rfl rfl rfl ?_
          first
          | exact hp FI AI bFr.rfl (by rw [hpB (by omega) (by omega)]; exact hK)
          | (refine hp FI A1 f1 ?_
             rw [hpC (by omega), ← gi, ← e0, ← zUsd_eq uu]
             exact kk)
          | (refine hp F1 A1 f1 ?_
             rw [hpA (by omega) (by omega) (by omega), ← gi]
             have em : min (N 0 + N 1) 39 = if N 0 + N 1 < 40 then N 0 + N 1 else 39 := by split <;> omega
             rw [em] at kk
             exact kk)
  · refine zv_aload_n C dX2_settleIncome_4 rfl rfl ?_
    refine zv_iload_n C dX2_settleIncome_5 rfl ?_
    refine zv_iload_n C dX2_settleIncome_6 rfl ?_
    refine zv_cVv0_2 C dX2_settleIncome_7 k_X2_useLosses l_X2_69 hB.1 rfl ⟨Nat.le_of_ble_eq_true rfl, Nat.le_of_ble_eq_true rfl⟩ ⟨rfl, rfl⟩ ⟨Nat.le_of_ble_eq_true rfl, Nat.le_of_ble_eq_true rfl⟩ rfl rfl ?_
    refine s_X2_useLosses hB hK hW1 (by omega) (by omega) (fun A1 N2 f1 kk uu => ?_)
    refine zv_goto C 55 dX2_settleIncome_10 rfl ?_
    refine zv_return C dX2_settleIncome_55 rfl rfl rfl ?_
    first
    | exact hp FI AI bFr.rfl (by rw [hpB (by omega) (by omega)]; exact hK)
    | (refine hp FI A1 f1 ?_
       rw [hpC (by omega), ← gi, ← e0, ← zUsd_eq uu]
       exact kk)
    | (refine hp F1 A1 f1 ?_
       rw [hpA (by omega) (by omega) (by omega), ← gi]
       have em : min (N 0 + N 1) 39 = if N 0 + N 1 < 40 then N 0 + N 1 else 39 := by split <;> omega
       rw [em] at kk
       exact kk)
