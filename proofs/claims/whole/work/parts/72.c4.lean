set_option maxRecDepth 20000 in
theorem s_X4_addParts {T : zTt} {FR : zFR} {AR : zAR} {FI : zFI} {AI : zAI} {Post : zPost} {B : Nat} {N : Int → Int} {s : Nat} {i : Int} (hc : cLay T FR) (hB : bLay T FR B) (hK : bk FI AI B N) (hs : T s = (2, 40)) (gs : s < 14) (gB : 14 ≤ B) (g0 : 0 ≤ i) (g1 : i < N 3) (g3 : N 3 ≤ 30) (gw : wI (mIt N) i) (gy : 0 ≤ N 0 ∧ N 0 ≤ 39) (hS : ∀ t : Int, 0 ≤ t → t < 40 → 0 ≤ AI s t ∧ AI s t ≤ 3000000) (hp : Post (zI 0) T FR AR FI (zmap AI s (N 0 + 1) 40 (fun t => AI s t + zPart (mIt N) i t))) : zMet M_X4_addParts [zR 5, zR B, zI i, zR s] T FR AR FI AI Post := by
  refine zMet.of [some (zR 5), some (zR B), some (zI i), some (zR s), none, none] rfl rfl rfl (fun G C => ?_)
  obtain ⟨k0, k1, k2, k3, k4, k5, k6, k7, k8⟩ := id hK
  have wl : N (245 + 5 * i + 4) ≤ 39 := gw.2.2.2.2.2
  have hf : ∀ k : Int, N 0 + 1 ≤ k → (N (245 + 5 * i + 4) < k ∨ k = 40) → k ≤ 40 → zmap AI s (N 0 + 1) k (fun t => AI s t + zPart (mIt N) i t) = zmap AI s (N 0 + 1) 40 (fun t => AI s t + zPart (mIt N) i t) := fun k a b c => zmap_ext c (fun j d e f => by
    have z : zPart (mIt N) i j = 0 := zPart_0 gw (show N (245 + 5 * i + 4) < j by omega)
    show AI s j + zPart (mIt N) i j = AI s j
    omega)
  refine zv_aload_n C dX4_addParts_0 rfl rfl ?_
  refine zv_iload_n C dX4_addParts_1 rfl ?_
  refine zv_cVi0_1 C dX4_addParts_2 k_X2_lastOf l_X4_59 hB.1 rfl ⟨Nat.le_of_ble_eq_true rfl, Nat.le_of_ble_eq_true rfl⟩ ⟨rfl, rfl⟩ ⟨Nat.le_of_ble_eq_true rfl, Nat.le_of_ble_eq_true rfl⟩ rfl rfl ?_
  refine s_X2_lastOf hB hK g0 g1 g3 ?_
  refine zv_istore_4 C dX4_addParts_5 rfl rfl ?_
  refine zv_aload_n C dX4_addParts_7 rfl rfl ?_
  refine zv_getI C dX4_addParts_8 f_X4_63 hB.1 rfl ?_
  rw [k0]
  refine zv_iconst C dX4_addParts_11 rfl ?_
  refine zv_iadd C dX4_addParts_12 ⟨by omega, by omega⟩ ?_
  refine zv_istore_5 C dX4_addParts_13 rfl rfl ?_
  suffices lp : ∀ (d : Nat) (k : Int), k + d = 40 → N 0 + 1 ≤ k → zV G 15 [some (zR 5), some (zR B), some (zI i), some (zR s), some (zI (N (245 + 5 * i + 4))), some (zI k)] [] T FR AR FI (zmap AI s (N 0 + 1) k (fun t => AI s t + zPart (mIt N) i t)) 0 0 from by
    have q := lp (39 - N 0).toNat (N 0 + 1) (by omega) (by omega)
    rw [zmap_0] at q
    exact q
  intro d
  induction d with
  | zero =>
    intro k hk hk0
    have e := hf k hk0 (by omega) (by omega)
    refine zv_iload C dX4_addParts_15 rfl ?_
    refine zv_iload C dX4_addParts_17 rfl ?_
    refine zv_icmp_gt C 49 dX4_addParts_19 rfl (fun h19 => ?_) (fun h19 => ?_)
    · refine zv_return C dX4_addParts_49 rfl rfl rfl ?_
      rw [e]
      exact hp
    · refine zv_iload C dX4_addParts_22 rfl ?_
      refine zv_bipush C dX4_addParts_24 rfl ?_
      refine zv_icmp_ge C 49 dX4_addParts_26 rfl (fun h26 => ?_) (fun h26 => absurd h26 (by omega))
      refine zv_return C dX4_addParts_49 rfl rfl rfl ?_
      rw [e]
      exact hp
  | succ d ih =>
    intro k hk hk0
    have q := ih (k + 1) (by omega) (by omega)
    have pb := zPart_b gw k
    have sb := hS k (by omega) (by omega)
    have su : mIt N i 2 ≤ 99999 := gw.2.2.1.2
    have hKx : bk FI (zmap AI s (N 0 + 1) k (fun t => AI s t + zPart (mIt N) i t)) B N := bk_fr hK (fun _ _ _ => rfl) (fun a _ _ => zmap_neF (by omega))
    refine zv_iload C dX4_addParts_15 rfl ?_
    refine zv_iload C dX4_addParts_17 rfl ?_
    refine zv_icmp_gt C 49 dX4_addParts_19 rfl (fun h19 => ?_) (fun h19 => ?_)
    · refine zv_return C dX4_addParts_49 rfl rfl rfl ?_
      rw [hf k hk0 (by omega) (by omega)]
      exact hp
    · refine zv_iload C dX4_addParts_22 rfl ?_
      refine zv_bipush C dX4_addParts_24 rfl ?_
      refine zv_icmp_ge C 49 dX4_addParts_26 rfl (fun h26 => absurd h26 (by omega)) (fun h26 => ?_)
      refine zv_aload_n C dX4_addParts_29 rfl rfl ?_
      refine zv_iload C dX4_addParts_30 rfl ?_
      refine zv_dup2 C dX4_addParts_32 rfl rfl ?_
      refine zv_iaload C dX4_addParts_33 hs ⟨by omega, by omega⟩ ?_
      rw [zmap_out (by omega)]
      refine zv_aload_n C dX4_addParts_34 rfl rfl ?_
      refine zv_iload_n C dX4_addParts_35 rfl ?_
      refine zv_iload C dX4_addParts_36 rfl ?_
      refine zv_cVi0_2 C dX4_addParts_38 k_X2_partOf l_X4_66 hB.1 rfl ⟨Nat.le_of_ble_eq_true rfl, Nat.le_of_ble_eq_true rfl⟩ ⟨rfl, rfl⟩ ⟨Nat.le_of_ble_eq_true rfl, Nat.le_of_ble_eq_true rfl⟩ rfl rfl ?_
      refine s_X2_partOf hB hKx g0 g1 g3 gw (by omega) (by omega) ?_
      refine zv_iadd C dX4_addParts_41 ⟨by omega, by omega⟩ ?_
      refine zv_iastore C dX4_addParts_42 hs ⟨by omega, by omega⟩ ?_
      rw [zmap_step (by omega) rfl]
      refine zv_iinc_5 C dX4_addParts_43 rfl rfl ⟨by omega, by omega⟩ ?_
      refine zv_goto C 15 dX4_addParts_46 rfl ?_
      exact q

set_option maxRecDepth 20000 in
theorem s_X4_workOut {T : zTt} {FR : zFR} {AR : zAR} {FI : zFI} {AI : zAI} {Post : zPost} {B : Nat} {N : Int → Int} {nI nL : Nat} {o : Int} (hc : cLay T FR) (hB : bLay T FR B) (hK : bk FI AI B N) (hW : mW N nI nL) (gB : 14 ≤ B) (g0 : 0 ≤ o) (g1 : o < N 2) (hp : ∀ (F : zFI) (A : zAI), cV A F N nI nL o (-1) 0 → cFr AI A FI F → Post (zI 0) T FR AR F A) : zMet M_X4_workOut [zR 5, zR B, zI o] T FR AR FI AI Post := by
  refine zMet.of [some (zR 5), some (zR B), some (zI o), none] rfl rfl rfl (fun G C => ?_)
  obtain ⟨k0, k1, k2, k3, k4, k5, k6, k7, k8⟩ := id hK
  obtain ⟨w0, w1, w2, w3, w4, w5, w6, w7, w8, w9⟩ := id hW
  suffices lp2 : ∀ (d j : Nat) (A : zAI), j + d = nI → (∀ a, a < 6 ∨ 13 < a → A a = AI a) → cB A N j o → (∀ t : Int, 0 ≤ t → t < 40 → A 10 t = 0) → zV G 54 [some (zR 5), some (zR B), some (zI o), some (zI (j : Int))] [] T FR AR FI A 0 0 from by
    suffices lp1 : ∀ (d : Nat) (k : Int) (A : zAI), k + d = 40 → 0 ≤ k → (∀ a, a < 6 ∨ 13 < a → A a = AI a) → (∀ t : Int, 0 ≤ t → t < k → A 6 t = 0 ∧ A 8 t = 0 ∧ A 10 t = 0 ∧ A 12 t = N (5 + 40 * o + t)) → zV G 2 [some (zR 5), some (zR B), some (zI o), some (zI k)] [] T FR AR FI A 0 0 from by
      refine zv_iconst C dX4_workOut_0 rfl ?_
      refine zv_istore_3 C dX4_workOut_1 rfl rfl ?_
      exact lp1 40 0 AI (by omega) (by omega) (fun _ _ => rfl) (fun t a b => by omega)
    intro d
    induction d with
    | zero =>
      intro k A hk hk0 hf hz
      have ek : k = 40 := by omega
      subst ek
      refine zv_iload_n C dX4_workOut_2 rfl ?_
      refine zv_bipush C dX4_workOut_3 rfl ?_
      refine zv_icmp_ge C 52 dX4_workOut_5 rfl (fun h5 => ?_) (fun h5 => absurd h5 (by omega))
      refine zv_iconst C dX4_workOut_52 rfl ?_
      refine zv_istore_3 C dX4_workOut_53 rfl rfl ?_
      refine lp2 nI 0 A (by omega) hf (fun t a b => ?_) (fun t a b => (hz t a b).2.2.1)
      have q := hz t a b
      refine ⟨?_, ?_, q.2.2.2, fun _ => q.2.2.1⟩
      · rw [q.1]; split <;> rfl
      · rw [q.2.1]; split <;> rfl
    | succ d ih =>
      intro k A hk hk0 hf hz
      refine zv_iload_n C dX4_workOut_2 rfl ?_
      refine zv_bipush C dX4_workOut_3 rfl ?_
      refine zv_icmp_ge C 52 dX4_workOut_5 rfl (fun h5 => absurd h5 (by omega)) (fun h5 => ?_)
      refine zv_aload_n C dX4_workOut_8 rfl rfl ?_
      refine zv_getR C dX4_workOut_9 f_X4_9 hc.1 rfl hc.2.2.2.2.2.2.2.2.2.1 ?_
      refine zv_iload_n C dX4_workOut_12 rfl ?_
      refine zv_iconst C dX4_workOut_13 rfl ?_
      refine zv_iastore C dX4_workOut_14 hc.2.1 ⟨by omega, by omega⟩ ?_
      refine zv_aload_n C dX4_workOut_15 rfl rfl ?_
      refine zv_getR C dX4_workOut_16 f_X4_18 hc.1 rfl hc.2.2.2.2.2.2.2.2.2.2.2.1 ?_
      refine zv_iload_n C dX4_workOut_19 rfl ?_
      refine zv_iconst C dX4_workOut_20 rfl ?_
      refine zv_iastore C dX4_workOut_21 hc.2.2.2.1 ⟨by omega, by omega⟩ ?_
      refine zv_aload_n C dX4_workOut_22 rfl rfl ?_
      refine zv_getR C dX4_workOut_23 f_X4_24 hc.1 rfl hc.2.2.2.2.2.2.2.2.2.2.2.2.2.1 ?_
      refine zv_iload_n C dX4_workOut_26 rfl ?_
      refine zv_iconst C dX4_workOut_27 rfl ?_
      refine zv_iastore C dX4_workOut_28 hc.2.2.2.2.2.1 ⟨by omega, by omega⟩ ?_
      refine zv_aload_n C dX4_workOut_29 rfl rfl ?_
      refine zv_getR C dX4_workOut_30 f_X4_30 hc.1 rfl hc.2.2.2.2.2.2.2.2.2.2.2.2.2.2.2.1 ?_
      refine zv_iload_n C dX4_workOut_33 rfl ?_
      refine zv_aload_n C dX4_workOut_34 rfl rfl ?_
      refine zv_getR C dX4_workOut_35 f_X4_36 hB.1 rfl hB.2.2.2.2.2.1 ?_
      refine zv_iload_n C dX4_workOut_38 rfl ?_
      refine zv_bipush C dX4_workOut_39 rfl ?_
      refine zv_imul C dX4_workOut_41 ⟨by omega, by omega⟩ ?_
      refine zv_iload_n C dX4_workOut_42 rfl ?_
      refine zv_iadd C dX4_workOut_43 ⟨by omega, by omega⟩ ?_
      refine zv_iaload C dX4_workOut_44 hB.2.1 ⟨by omega, by omega⟩ ?_
      rw [zsA_ne (by omega), zsA_ne (by omega), zsA_ne (by omega), hf (B + 1) (by omega), k5 o k g0 g1 (by omega) (by omega)]
      refine zv_iastore C dX4_workOut_45 hc.2.2.2.2.2.2.2.1 ⟨by omega, by omega⟩ ?_
      refine zv_iinc_3 C dX4_workOut_46 rfl rfl ⟨by omega, by omega⟩ ?_
      refine zv_goto C 2 dX4_workOut_49 rfl ?_
      refine ih (k + 1) _ (by omega) (by omega) (fun a ha => ?_) (fun t a b => ?_)
      · rw [zsA_neF (by omega), zsA_neF (by omega), zsA_neF (by omega), zsA_neF (by omega)]
        exact hf a ha
      · by_cases e : t = k
        · subst e
          simp (disch := omega) only [zsA_eq, zsA_ne]
          simp
        · have q := hz t a (by omega)
          simp (disch := omega) only [zsA_nj]
          exact q
  intro d
  induction d with
  | zero =>
    intro j A hj hf hB1 hz
    have ej : j = nI := by omega
    subst ej
    have hK2 : bk FI A B N := bk_fr hK (fun _ _ _ => rfl) (fun a _ _ => hf a (by omega))
    refine zv_iload_n C dX4_workOut_54 rfl ?_
    refine zv_aload_n C dX4_workOut_55 rfl rfl ?_
    refine zv_getI C dX4_workOut_56 f_X4_39 hB.1 rfl ?_
    refine zv_icmp_ge C 102 dX4_workOut_59 rfl (fun h59 => ?_) (fun h59 => absurd h59 (by omega))
    refine zv_aload_n C dX4_workOut_102 rfl rfl ?_
    refine zv_aload_n C dX4_workOut_103 rfl rfl ?_
    refine zv_iload_n C dX4_workOut_104 rfl ?_
    refine zv_iconst C dX4_workOut_105 rfl ?_
    refine zv_iconst C dX4_workOut_106 rfl ?_
    refine zv_cVv0_4 C dX4_workOut_107 k_X4_spread l_X4_55 hc.1 rfl ⟨Nat.le_of_ble_eq_true rfl, Nat.le_of_ble_eq_true rfl⟩ ⟨rfl, rfl⟩ ⟨Nat.le_of_ble_eq_true rfl, Nat.le_of_ble_eq_true rfl⟩ rfl rfl ?_
    refine s_X4_spread hc hB hK2 hW gB g0 (by omega) (by omega) (by omega) (fun t a b => ?_) (fun F1 A1 s hs hI => ?_)
    · have q := hB1 t (by omega) b
      rw [if_pos (by omega), if_pos (by omega)] at q
      exact ⟨q.1, q.2.1⟩
    refine zv_return C dX4_workOut_110 rfl rfl rfl ?_
    have z := cV_of hW hs hB1 hI
    exact hp F1 A1 z.1 (cFr.trans ⟨hf, fun _ _ _ => rfl⟩ z.2)
  | succ d ih =>
    intro j A hj hf hB1 hz
    have hK2 : bk FI A B N := bk_fr hK (fun _ _ _ => rfl) (fun a _ _ => hf a (by omega))
    have wj := w8 j (by omega) (by omega)
    obtain ⟨-, wt, -, -⟩ := id wj
    simp only [mIt] at wt
    have b6 : ∀ t : Int, 0 ≤ t → t < 40 → (0 ≤ A 6 t ∧ A 6 t ≤ 3000000) ∧ (0 ≤ A 8 t ∧ A 8 t ≤ 3000000) := fun t a b => by
      have q := hB1 t a b
      have p1 := zPs_b (n := j) (fun i h0 h1 => w8 i h0 (by omega)) o t 1
      have p0 := zPs_b (n := j) (fun i h0 h1 => w8 i h0 (by omega)) o t 0
      rw [q.1, q.2.1]
      unfold mTax mDed
      split <;> omega
    have ex1 : ∀ t, mTax N (j + 1) o t = (if N (245 + 5 * (j : Int) + 0) = o ∧ N (245 + 5 * (j : Int) + 1) = 1 then mTax N j o t + zPart (mIt N) j t else mTax N j o t) := fun t => by
      unfold mTax
      split
      · rename_i g; exact zPs_t g
      · rename_i g; exact zPs_f g
    have ex0 : ∀ t, mDed N (j + 1) o t = (if N (245 + 5 * (j : Int) + 0) = o ∧ N (245 + 5 * (j : Int) + 1) = 0 then mDed N j o t + zPart (mIt N) j t else mDed N j o t) := fun t => by
      unfold mDed
      split
      · rename_i g; exact zPs_t g
      · rename_i g; exact zPs_f g
    refine zv_iload_n C dX4_workOut_54 rfl ?_
    refine zv_aload_n C dX4_workOut_55 rfl rfl ?_
    refine zv_getI C dX4_workOut_56 f_X4_39 hB.1 rfl ?_
    refine zv_icmp_ge C 102 dX4_workOut_59 rfl (fun h59 => absurd h59 (by omega)) (fun h59 => ?_)
    refine zv_aload_n C dX4_workOut_62 rfl rfl ?_
    refine zv_iload_n C dX4_workOut_63 rfl ?_
    refine zv_iload_n C dX4_workOut_64 rfl ?_
    refine zv_cVi0_2 C dX4_workOut_65 k_X2_isItemOf l_X4_43 hB.1 rfl ⟨Nat.le_of_ble_eq_true rfl, Nat.le_of_ble_eq_true rfl⟩ ⟨rfl, rfl⟩ ⟨Nat.le_of_ble_eq_true rfl, Nat.le_of_ble_eq_true rfl⟩ rfl rfl ?_
    refine s_X2_isItemOf hB hK2 (by omega) (by omega) (by omega) (fun b65 => ?_) (fun b65 => ?_)
    · refine zv_if_eq C 96 dX4_workOut_68 rfl (fun h => absurd h (by omega)) (fun _ => ?_)
      refine zv_aload_n C dX4_workOut_71 rfl rfl ?_
      refine zv_aload_n C dX4_workOut_72 rfl rfl ?_
      refine zv_iload_n C dX4_workOut_73 rfl ?_
      refine zv_aload_n C dX4_workOut_74 rfl rfl ?_
      refine zv_iload_n C dX4_workOut_75 rfl ?_
      refine zv_cVi0_1 C dX4_workOut_76 k_X2_isTaxable l_X4_47 hB.1 rfl ⟨Nat.le_of_ble_eq_true rfl, Nat.le_of_ble_eq_true rfl⟩ ⟨rfl, rfl⟩ ⟨Nat.le_of_ble_eq_true rfl, Nat.le_of_ble_eq_true rfl⟩ rfl rfl ?_
      refine s_X2_isTaxable hB hK2 (by omega) (by omega) (by omega) (fun b76 => ?_) (fun b76 => ?_)
      · refine zv_if_eq C 89 dX4_workOut_79 rfl (fun h => absurd h (by omega)) (fun _ => ?_)
        refine zv_aload_n C dX4_workOut_82 rfl rfl ?_
        refine zv_getR C dX4_workOut_83 f_X4_9 hc.1 rfl hc.2.2.2.2.2.2.2.2.2.1 ?_
        refine zv_goto C 93 dX4_workOut_86 rfl ?_
        refine zv_cVv0_3 C dX4_workOut_93 k_X4_addParts l_X4_51 hc.1 rfl ⟨Nat.le_of_ble_eq_true rfl, Nat.le_of_ble_eq_true rfl⟩ ⟨rfl, rfl⟩ ⟨Nat.le_of_ble_eq_true rfl, Nat.le_of_ble_eq_true rfl⟩ rfl rfl ?_
        refine s_X4_addParts hc hB hK2 hc.2.1 (by omega) gB (by omega) (by omega) (by omega) wj w0 (fun t a b => (b6 t a b).1) ?_
        refine zv_iinc_3 C dX4_workOut_96 rfl rfl ⟨by omega, by omega⟩ ?_
        refine zv_goto C 54 dX4_workOut_99 rfl ?_
        first
        | (refine ih (j + 1) A (by omega) hf (fun t a b => ?_) hz
           have q := hB1 t a b
           rw [(ex1 t).trans (if_neg (by omega)), (ex0 t).trans (if_neg (by omega))]
           exact q)
        | (refine ih (j + 1) _ (by omega) (fun a ha => (zmap_neF (by omega)).trans (hf a ha)) (fun t a b => ?_) (fun t a b => (zmap_ne (by decide)).trans (hz t a b))
           have q := hB1 t a b
           rw [(ex1 t).trans (if_pos (by omega)), (ex0 t).trans (if_neg (by omega)), zmap_ne (show 8 ≠ 6 by decide), zmap_ne (show 12 ≠ 6 by decide), zmap_ne (show 10 ≠ 6 by decide)]
           refine ⟨?_, q.2⟩
           by_cases c : N 0 < t
           · rw [zmap_in ⟨by omega, by omega⟩, if_pos c, q.1, if_pos c]
           · rw [zmap_out (by omega), if_neg c, q.1, if_neg c])
        | (refine ih (j + 1) _ (by omega) (fun a ha => (zmap_neF (by omega)).trans (hf a ha)) (fun t a b => ?_) (fun t a b => (zmap_ne (by decide)).trans (hz t a b))
           have q := hB1 t a b
           rw [(ex1 t).trans (if_neg (by omega)), (ex0 t).trans (if_pos (by omega)), zmap_ne (show 6 ≠ 8 by decide), zmap_ne (show 12 ≠ 8 by decide), zmap_ne (show 10 ≠ 8 by decide)]
           refine ⟨q.1, ?_, q.2.2⟩
           by_cases c : N 0 < t
           · rw [zmap_in ⟨by omega, by omega⟩, if_pos c, q.2.1, if_pos c]
           · rw [zmap_out (by omega), if_neg c, q.2.1, if_neg c])
      · refine zv_if_eq C 89 dX4_workOut_79 rfl (fun _ => ?_) (fun h => absurd h (by omega))
        refine zv_aload_n C dX4_workOut_89 rfl rfl ?_
        refine zv_getR C dX4_workOut_90 f_X4_18 hc.1 rfl hc.2.2.2.2.2.2.2.2.2.2.2.1 ?_
        refine zv_cVv0_3 C dX4_workOut_93 k_X4_addParts l_X4_51 hc.1 rfl ⟨Nat.le_of_ble_eq_true rfl, Nat.le_of_ble_eq_true rfl⟩ ⟨rfl, rfl⟩ ⟨Nat.le_of_ble_eq_true rfl, Nat.le_of_ble_eq_true rfl⟩ rfl rfl ?_
        refine s_X4_addParts hc hB hK2 hc.2.2.2.1 (by omega) gB (by omega) (by omega) (by omega) wj w0 (fun t a b => (b6 t a b).2) ?_
        refine zv_iinc_3 C dX4_workOut_96 rfl rfl ⟨by omega, by omega⟩ ?_
        refine zv_goto C 54 dX4_workOut_99 rfl ?_
        first
        | (refine ih (j + 1) A (by omega) hf (fun t a b => ?_) hz
           have q := hB1 t a b
           rw [(ex1 t).trans (if_neg (by omega)), (ex0 t).trans (if_neg (by omega))]
           exact q)
        | (refine ih (j + 1) _ (by omega) (fun a ha => (zmap_neF (by omega)).trans (hf a ha)) (fun t a b => ?_) (fun t a b => (zmap_ne (by decide)).trans (hz t a b))
           have q := hB1 t a b
           rw [(ex1 t).trans (if_pos (by omega)), (ex0 t).trans (if_neg (by omega)), zmap_ne (show 8 ≠ 6 by decide), zmap_ne (show 12 ≠ 6 by decide), zmap_ne (show 10 ≠ 6 by decide)]
           refine ⟨?_, q.2⟩
           by_cases c : N 0 < t
           · rw [zmap_in ⟨by omega, by omega⟩, if_pos c, q.1, if_pos c]
           · rw [zmap_out (by omega), if_neg c, q.1, if_neg c])
        | (refine ih (j + 1) _ (by omega) (fun a ha => (zmap_neF (by omega)).trans (hf a ha)) (fun t a b => ?_) (fun t a b => (zmap_ne (by decide)).trans (hz t a b))
           have q := hB1 t a b
           rw [(ex1 t).trans (if_neg (by omega)), (ex0 t).trans (if_pos (by omega)), zmap_ne (show 6 ≠ 8 by decide), zmap_ne (show 12 ≠ 8 by decide), zmap_ne (show 10 ≠ 8 by decide)]
           refine ⟨q.1, ?_, q.2.2⟩
           by_cases c : N 0 < t
           · rw [zmap_in ⟨by omega, by omega⟩, if_pos c, q.2.1, if_pos c]
           · rw [zmap_out (by omega), if_neg c, q.2.1, if_neg c])
    · refine zv_if_eq C 96 dX4_workOut_68 rfl (fun _ => ?_) (fun h => absurd h (by omega))
      refine zv_iinc_3 C dX4_workOut_96 rfl rfl ⟨by omega, by omega⟩ ?_
      refine zv_goto C 54 dX4_workOut_99 rfl ?_
      first
      | (refine ih (j + 1) A (by omega) hf (fun t a b => ?_) hz
         have q := hB1 t a b
         rw [(ex1 t).trans (if_neg (by omega)), (ex0 t).trans (if_neg (by omega))]
         exact q)
      | (refine ih (j + 1) _ (by omega) (fun a ha => (zmap_neF (by omega)).trans (hf a ha)) (fun t a b => ?_) (fun t a b => (zmap_ne (by decide)).trans (hz t a b))
         have q := hB1 t a b
         rw [(ex1 t).trans (if_pos (by omega)), (ex0 t).trans (if_neg (by omega)), zmap_ne (show 8 ≠ 6 by decide), zmap_ne (show 12 ≠ 6 by decide), zmap_ne (show 10 ≠ 6 by decide)]
         refine ⟨?_, q.2⟩
         by_cases c : N 0 < t
         · rw [zmap_in ⟨by omega, by omega⟩, if_pos c, q.1, if_pos c]
         · rw [zmap_out (by omega), if_neg c, q.1, if_neg c])
      | (refine ih (j + 1) _ (by omega) (fun a ha => (zmap_neF (by omega)).trans (hf a ha)) (fun t a b => ?_) (fun t a b => (zmap_ne (by decide)).trans (hz t a b))
         have q := hB1 t a b
         rw [(ex1 t).trans (if_neg (by omega)), (ex0 t).trans (if_pos (by omega)), zmap_ne (show 6 ≠ 8 by decide), zmap_ne (show 12 ≠ 8 by decide), zmap_ne (show 10 ≠ 8 by decide)]
         refine ⟨q.1, ?_, q.2.2⟩
         by_cases c : N 0 < t
         · rw [zmap_in ⟨by omega, by omega⟩, if_pos c, q.2.1, if_pos c]
         · rw [zmap_out (by omega), if_neg c, q.2.1, if_neg c])

