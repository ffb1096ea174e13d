set_option maxRecDepth 20000 in
theorem s_X9_would {T : zTt} {FR : zFR} {AR : zAR} {FI : zFI} {AI : zAI} {Post : zPost} {o y r : Int} {nI nL : Nat}  (hL : mLay T FR) (hW : mW (AI 111) nI nL) (hp : ∀ A1, zFr2 AI A1 → Post (zI (aWould (AI 111) nI nL o y r)) T FR AR (zsF FI 100 0 0) A1) : zMet M_X9_would [zR 100, zI o, zI y, zI r] T FR AR FI AI Post := by
  refine zMet.of [some (zR 100), some (zI o), some (zI y), some (zI r), none, none] rfl rfl rfl (fun G C => ?_)
  obtain ⟨w0, w1, w2, w3, w4, w5, w6, w7, w8, w9⟩ := id hW
  suffices lp1 : okEn (AI 111) o y r → ∀ (d : Nat) (k : Int), k + d = 40 → 0 ≤ k → zV G 22 [some (zR 100), some (zI o), some (zI y), some (zI r), some (zI k), none] [] T FR AR (zsF FI 100 0 0) (zmap AI 124 0 k (fun j => AI 111 (5 + 40 * o + j))) 0 0 from by
    refine zv_aload_n C dX9_would_0 rfl rfl ?_
    refine zv_iconst C dX9_would_1 rfl ?_
    refine zv_putI C dX9_would_2 f_X9_1 hL.1 rfl ?_
    refine zv_aload_n C dX9_would_5 rfl rfl ?_
    refine zv_iload_n C dX9_would_6 rfl ?_
    refine zv_iload_n C dX9_would_7 rfl ?_
    refine zv_iload_n C dX9_would_8 rfl ?_
    refine zv_cVi0_3 C dX9_would_9 k_X9_canEnact l_X9_260 hL.1 rfl ⟨Nat.le_of_ble_eq_true rfl, Nat.le_of_ble_eq_true rfl⟩ ⟨rfl, rfl⟩ ⟨Nat.le_of_ble_eq_true rfl, Nat.le_of_ble_eq_true rfl⟩ rfl rfl ?_
    refine s_X9_canEnact hL hW (fun bo => ?_) (fun bo => ?_)
    · refine zv_if_ne C 19 dX9_would_12 rfl (fun _ => ?_) (fun h => absurd h (by omega))
      refine zv_iconst C dX9_would_19 rfl ?_
      refine zv_istore_4 C dX9_would_20 rfl rfl ?_
      have q := lp1 bo 40 0 (by omega) (by omega)
      rw [zmap_0] at q
      exact q
    · refine zv_if_ne C 19 dX9_would_12 rfl (fun h => absurd h (by omega)) (fun _ => ?_)
      refine zv_ldcw (x := -100000000) C dX9_would_15 c_X9_256 rfl ?_
      refine zv_ireturn C dX9_would_18 rfl rfl rfl rfl ?_
      refine zpost ?_ (hp AI zFr2.rfl)
      unfold aWould
      exact if_neg bo
  intro bo d
  have bo2 := id bo
  unfold okEn at bo2
  induction d with
  | zero =>
    intro k hk hk0
    have ek : k = 40 := by omega
    subst ek
    have hW1 : mW (zfl (AI 111) (5 + 40 * o + y) (5 + 40 * o + 40) r) nI nL := mW_rate hW (by omega) (by omega) (by omega) (by omega) (by omega)
    refine zv_iload C dX9_would_22 rfl ?_
    refine zv_bipush C dX9_would_24 rfl ?_
    refine zv_icmp_ge C 49 dX9_would_26 rfl (fun h26 => ?_) (fun h26 => absurd h26 (by omega))
    refine zv_aload_n C dX9_would_49 rfl rfl ?_
    refine zv_getR C dX9_would_50 f_X9_74 hL.1 rfl hL.2.2.2.2.2.2.2.2.2.2.2.2.2.2.2.1 ?_
    refine zv_iload_n C dX9_would_53 rfl ?_
    refine zv_iload_n C dX9_would_54 rfl ?_
    refine zv_iload_n C dX9_would_55 rfl ?_
    refine zv_cSv0_4 C dX9_would_56 k_X9_setRates l_X9_139 ⟨Nat.le_of_ble_eq_true rfl, Nat.le_of_ble_eq_true rfl⟩ ⟨rfl, rfl⟩ ⟨Nat.le_of_ble_eq_true rfl, Nat.le_of_ble_eq_true rfl⟩ rfl rfl ?_
    refine s_X9_setRates hL.2.2.1 (by omega) (by omega) (by omega) (by omega) ?_
    rw [zfill_row, zmap_neF (by decide)]
    refine zv_aload_n C dX9_would_59 rfl rfl ?_
    refine zv_iload_n C dX9_would_60 rfl ?_
    refine zv_iconst C dX9_would_61 rfl ?_
    refine zv_cVi0_2 C dX9_would_62 k_X9_balanceOf l_X9_253 hL.1 rfl ⟨Nat.le_of_ble_eq_true rfl, Nat.le_of_ble_eq_true rfl⟩ ⟨rfl, rfl⟩ ⟨Nat.le_of_ble_eq_true rfl, Nat.le_of_ble_eq_true rfl⟩ rfl rfl ?_
    refine s_X9_balanceOf hL (by rw [zrow_eqF]; exact hW1) (by omega) (by omega) (fun A1 hA => ?_)
    rw [zrow_eqF]
    refine zv_istore_4 C dX9_would_65 rfl rfl ?_
    refine zv_iconst C dX9_would_67 rfl ?_
    refine zv_istore_5 C dX9_would_68 rfl rfl ?_
    generalize hv : mBal (zfl (AI 111) (5 + 40 * o + y) (5 + 40 * o + 40) r) nI nL o 3 = v
    have e111 : A1 111 = (zfl (AI 111) (5 + 40 * o + y) (5 + 40 * o + 40) r) := by rw [hA 111 (by decide), zrow_eqF]
    have e124 : ∀ j : Int, 0 ≤ j → j < 40 → A1 124 j = AI 111 (5 + 40 * o + j) := fun j a c => by rw [hA 124 (by decide), zrow_neF (by decide), zmap_in ⟨a, c⟩]
    suffices lp2 : ∀ (d : Nat) (k : Int), k + d = 40 → 0 ≤ k → zV G 70 [some (zR 100), some (zI o), some (zI y), some (zI r), some (zI v), some (zI k)] [] T FR AR (zsF FI 100 0 0) (zmap A1 111 (5 + 40 * o) (5 + 40 * o + k) (fun j => AI 111 j)) 0 0 from by
      have q := lp2 40 0 (by omega) (by omega)
      rw [Int.add_zero, zmap_0] at q
      exact q
    intro d2
    induction d2 with
    | zero =>
      intro k hk hk0
      have ek : k = 40 := by omega
      subst ek
      refine zv_iload C dX9_would_70 rfl ?_
      refine zv_bipush C dX9_would_72 rfl ?_
      refine zv_icmp_ge C 104 dX9_would_74 rfl (fun h74 => ?_) (fun h74 => absurd h74 (by omega))
      refine zv_iload C dX9_would_104 rfl ?_
      refine zv_ireturn C dX9_would_106 rfl rfl rfl rfl ?_
      refine zpost ?_ (hp _ (fun a ha => ?_))
      · unfold aWould
        exact (if_pos bo).trans hv
      · by_cases e : a = 111
        · rw [e]
          funext j
          by_cases c : 5 + 40 * o ≤ j ∧ j < 5 + 40 * o + 40
          · rw [zmap_in c]
          · rw [zmap_out (by omega), e111]
            exact if_neg (by omega)
        · rw [zmap_neF e, hA a (by omega), zrow_neF e]
          exact zmap_neF (by omega)
    | succ d2 ih2 =>
      intro k hk hk0
      have q := ih2 (k + 1) (by omega) (by omega)
      rw [← Int.add_assoc] at q
      refine zv_iload C dX9_would_70 rfl ?_
      refine zv_bipush C dX9_would_72 rfl ?_
      refine zv_icmp_ge C 104 dX9_would_74 rfl (fun h74 => absurd h74 (by omega)) (fun h74 => ?_)
      refine zv_aload_n C dX9_would_77 rfl rfl ?_
      refine zv_getR C dX9_would_78 f_X9_74 hL.1 rfl hL.2.2.2.2.2.2.2.2.2.2.2.2.2.2.2.1 ?_
      refine zv_iconst C dX9_would_81 rfl ?_
      refine zv_bipush C dX9_would_82 rfl ?_
      refine zv_iload_n C dX9_would_84 rfl ?_
      refine zv_imul C dX9_would_85 ⟨by omega, by omega⟩ ?_
      refine zv_iadd C dX9_would_86 ⟨by omega, by omega⟩ ?_
      refine zv_iload C dX9_would_87 rfl ?_
      refine zv_iadd C dX9_would_89 ⟨by omega, by omega⟩ ?_
      refine zv_aload_n C dX9_would_90 rfl rfl ?_
      refine zv_getR C dX9_would_91 f_X9_107 hL.1 rfl hL.2.2.2.2.2.2.2.2.2.2.2.2.2.2.2.2.2.2.2.2.2.2.2.2.2.2 ?_
      refine zv_iload C dX9_would_94 rfl ?_
      refine zv_iaload C dX9_would_96 hL.2.2.2.2.2.2.2.2.2.2.2.2.2.1 ⟨by omega, by omega⟩ ?_
      rw [zmap_ne (by decide), e124 k (by omega) (by omega)]
      refine zv_iastore C dX9_would_97 hL.2.2.1 ⟨by omega, by omega⟩ ?_
      rw [zmap_step (by omega) rfl]
      refine zv_iinc_5 C dX9_would_98 rfl rfl ⟨by omega, by omega⟩ ?_
      refine zv_goto C 70 dX9_would_101 rfl ?_
      exact q
  | succ d ih =>
    intro k hk hk0
    have q := ih (k + 1) (by omega) (by omega)
    refine zv_iload C dX9_would_22 rfl ?_
    refine zv_bipush C dX9_would_24 rfl ?_
    refine zv_icmp_ge C 49 dX9_would_26 rfl (fun h26 => absurd h26 (by omega)) (fun h26 => ?_)
    refine zv_aload_n C dX9_would_29 rfl rfl ?_
    refine zv_getR C dX9_would_30 f_X9_107 hL.1 rfl hL.2.2.2.2.2.2.2.2.2.2.2.2.2.2.2.2.2.2.2.2.2.2.2.2.2.2 ?_
    refine zv_iload C dX9_would_33 rfl ?_
    refine zv_aload_n C dX9_would_35 rfl rfl ?_
    refine zv_iload_n C dX9_would_36 rfl ?_
    refine zv_iload C dX9_would_37 rfl ?_
    refine zv_cVi0_2 C dX9_would_39 k_X9_rateOf l_X9_207 hL.1 rfl ⟨Nat.le_of_ble_eq_true rfl, Nat.le_of_ble_eq_true rfl⟩ ⟨rfl, rfl⟩ ⟨Nat.le_of_ble_eq_true rfl, Nat.le_of_ble_eq_true rfl⟩ rfl rfl ?_
    refine s_X9_rateOf hL (by omega) (by omega) (by omega) (by omega) ?_
    rw [zmap_ne (by decide)]
    refine zv_iastore C dX9_would_42 hL.2.2.2.2.2.2.2.2.2.2.2.2.2.1 ⟨by omega, by omega⟩ ?_
    rw [zmap_step (by omega) rfl]
    refine zv_iinc_4 C dX9_would_43 rfl rfl ⟨by omega, by omega⟩ ?_
    refine zv_goto C 22 dX9_would_46 rfl ?_
    exact q

theorem zNb_row {X : zAI} {N2 : Int → Int} {i x : Int} : zsA (zrow X 111 N2) 111 i x = zrow X 111 (zu1 N2 i x) := zrow_set
/-- b: the loss that is used next, among the first k -/
def zNb (N : Int → Int) (o y k b : Int) : Prop := (b = -1 ∧ ∀ q : Int, 0 ≤ q → q < k → ¬ (mEl N o y q = 1 ∧ 0 < mLf N q)) ∨ (0 ≤ b ∧ b < k ∧ mEl N o y b = 1 ∧ 0 < mLf N b ∧ ∀ q : Int, 0 ≤ q → q < k → mEl N o y q = 1 → 0 < mLf N q → mLs N b < mLs N q ∨ (mLs N b = mLs N q ∧ b ≤ q))
theorem zNb_skip {N : Int → Int} {o y k b : Int} (h : zNb N o y k b) (hs : mEl N o y k ≠ 1 ∨ mLf N k ≤ 0) : zNb N o y (k + 1) b := by
  rcases h with ⟨h1, h2⟩ | ⟨h1, h2, h3, h4, h5⟩
  · refine Or.inl ⟨h1, fun q h0 hq => ?_⟩
    by_cases e : q = k
    · rw [e]; omega
    · exact h2 q h0 (by omega)
  · refine Or.inr ⟨h1, by omega, h3, h4, fun q h0 hq g1 g2 => ?_⟩
    by_cases e : q = k
    · rw [e] at g1 g2; omega
    · exact h5 q h0 (by omega) g1 g2
theorem zNb_keep {N : Int → Int} {o y k b : Int} (h : zNb N o y k b) (hb : ¬ b = -1) (hs : mLs N b ≤ mLs N k) : zNb N o y (k + 1) b := by
  rcases h with ⟨h1, h2⟩ | ⟨h1, h2, h3, h4, h5⟩
  · exact absurd h1 hb
  · refine Or.inr ⟨h1, by omega, h3, h4, fun q h0 hq g1 g2 => ?_⟩
    by_cases e : q = k
    · rw [e]; omega
    · exact h5 q h0 (by omega) g1 g2
theorem zNb_new {N : Int → Int} {o y k b : Int} (h : zNb N o y k b) (hk : 0 ≤ k) (g1 : mEl N o y k = 1) (g2 : 0 < mLf N k) (hs : b = -1 ∨ mLs N k < mLs N b) : zNb N o y (k + 1) k := by
  refine Or.inr ⟨hk, by omega, g1, g2, fun q h0 hq q1 q2 => ?_⟩
  by_cases e : q = k
  · rw [e]; omega
  · rcases h with ⟨h1, h2⟩ | ⟨h1, h2, h3, h4, h5⟩
    · exact absurd ⟨q1, q2⟩ (h2 q h0 (by omega))
    · have := h5 q h0 (by omega) q1 q2
      omega
theorem zNb_in {N : Int → Int} {o y k b : Int} (h : zNb N o y k b) (hb : ¬ b = -1) : 0 ≤ b ∧ b < k := by
  rcases h with ⟨h1, h2⟩ | ⟨h1, h2, -⟩
  · exact absurd h1 hb
  · exact ⟨h1, h2⟩
/-- the losses of N, so much of the income used -/
def zBr (N N2 : Int → Int) (nL : Nat) (o y u : Int) : Prop := zUsd N N2 nL (mLeft N nL o y u) ∧ u = zS (ztk (mEl N o y) (mLs N) (mLf N) nL u) nL
theorem zBr_at {N N2 : Int → Int} {nL : Nat} {o y u : Int} (h : zBr N N2 nL o y u) {l : Int} (h0 : 0 ≤ l) (h1 : l < nL) : mEl N2 o y l = mEl N o y l ∧ mLs N2 l = mLs N l ∧ mLf N2 l = mLeft N nL o y u l := by
  have e0 := h.1.2 (395 + 4 * l + 0) (fun q _ _ => by omega)
  have e2 := h.1.2 (395 + 4 * l + 2) (fun q _ _ => by omega)
  refine ⟨?_, e2, h.1.1 l h0 h1⟩
  unfold mEl
  rw [e0, e2]
theorem zBr_0 {N : Int → Int} {nL : Nat} {o y : Int} (h : ∀ l : Int, 0 ≤ l → l < nL → 0 ≤ mLf N l) : zBr N N nL o y 0 := by
  refine ⟨⟨fun l a b => ?_, fun _ _ => rfl⟩, ?_⟩
  · unfold mLeft
    rw [ztk_0 h a b]
    show N (395 + 4 * l + 3) = mLf N l - 0
    unfold mLf
    omega
  · rw [zS_congr (g := fun _ => 0) nL (fun i a b => ztk_0 h a b), zS_zero]
theorem zBr_step {N N2 : Int → Int} {nL : Nat} {o y u b v : Int} (hnn : ∀ l : Int, 0 ≤ l → l < nL → 0 ≤ mLf N l) (h : zBr N N2 nL o y u) (hx : zNb N2 o y nL b) (hb : ¬ b = -1) (hv0 : 0 < v) (hv1 : v ≤ mLf N2 b) : zBr N (zu1 N2 (395 + 4 * b + 3) (N2 (395 + 4 * b + 3) - v)) nL o y (u + v) := by
  rcases hx with ⟨h1, -⟩ | ⟨h1, h2, h3, h4, h5⟩
  · exact absurd h1 hb
  · obtain ⟨ab1, ab2, ab3⟩ := zBr_at h h1 h2
    rw [ab1] at h3
    rw [ab3] at h4 hv1
    unfold mLeft at h4 hv1
    have st := ztk_step (el := mEl N o y) (ls := mLs N) (lf := mLf N) (nL := nL) (u := u) (b := b) (v := v) hnn h.2 h1 h2 h3 h4 (fun q a c e1 e2 => by
      obtain ⟨aq1, aq2, aq3⟩ := zBr_at h a c
      have tb := ztk_b (el := mEl N o y) (ls := mLs N) (nL := nL) (u := u) (hnn q a c)
      by_cases g : 0 < mLf N2 q
      · have := h5 q a c (by rw [aq1]; exact e1) g
        rw [ab2, aq2] at this
        omega
      · rw [aq3] at g
        unfold mLeft at g
        omega) hv0 hv1
    refine ⟨⟨fun l a c => ?_, fun j hj => ?_⟩, st.2⟩
    · unfold mLeft
      rw [st.1 l a c]
      by_cases e : l = b
      · rw [e, zu1_eq, if_pos rfl, h.1.1 b h1 h2]
        unfold mLeft
        omega
      · rw [zu1_ne (by omega), if_neg e, h.1.1 l a c]
        unfold mLeft
        omega
    · rw [zu1_ne (hj b h1 h2)]
      exact h.1.2 j hj
theorem zBr_end {N N2 : Int → Int} {nL : Nat} {o y u w b : Int} (hnn : ∀ l : Int, 0 ≤ l → l < nL → 0 ≤ mLf N l) (h : zBr N N2 nL o y u) (hw : u ≤ w) (he : u = w ∨ (b = -1 ∧ zNb N2 o y nL b)) : zUsd N N2 nL (mLeft N nL o y w) := by
  rcases he with he | ⟨hb, hx⟩
  · rw [← he]; exact h.1
  · refine ⟨fun l a c => ?_, h.1.2⟩
    rw [h.1.1 l a c]
    unfold mLeft
    rw [ztk_end hnn (fun q a c e1 => ?_) hw a c]
    obtain ⟨aq1, aq2, aq3⟩ := zBr_at h a c
    have tb := ztk_b (el := mEl N o y) (ls := mLs N) (nL := nL) (u := u) (hnn q a c)
    rcases hx with ⟨-, h2⟩ | ⟨h1, -⟩
    · have g := h2 q a c
      rw [aq1, aq3] at g
      unfold mLeft at g
      omega
    · omega
