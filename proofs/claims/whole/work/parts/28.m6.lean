set_option maxRecDepth 20000 in
theorem s_X9_liability {T : zTt} {FR : zFR} {AR : zAR} {FI : zFI} {AI : zAI} {Post : zPost} {A0 : zAI} {o yr more : Int} {nI nL s : Nat} (hL : mLay T FR) (hW : mW (A0 111) nI nL) (hI : zSwI A0 AI (mDed (A0 111) nI o) (mCov (A0 111) nI o yr more) (mTax (A0 111) nI o) (A0 111 1) (mP0 (A0 111) nL o) (A0 111 0 + 1) s) (hs : A0 111 0 + 1 + s = 40) (g0 : 0 ≤ o) (g1 : o < 3) (g2 : 0 ≤ more) (g3 : more ≤ 99999) (hp : Post (zI (mLi (A0 111) nI o)) T FR AR FI AI) : zMet M_X9_liability [zR 100, zI o] T FR AR FI AI Post := by
  refine zMet.of [some (zR 100), some (zI o), none, none] rfl rfl rfl (fun G C => ?_)
  obtain ⟨w0, w1, w2, w3, w4, w5, w6, w7, w8, w9⟩ := id hW
  obtain ⟨i1, i2, i3, i4, i5, i6⟩ := id hI
  have e111 : AI 111 = A0 111 := i1 111 (by decide)
  have es : (39 - A0 111 0).toNat = s := by omega
  generalize hf : (fun i => mTax (A0 111) nI o (A0 111 0 + 1 + i) * A0 111 (5 + 40 * o + (A0 111 0 + 1 + i)) / 1000) = f
  have fb : ∀ j : Nat, j < s → f j = mTax (A0 111) nI o (A0 111 0 + 1 + j) * A0 111 (5 + 40 * o + (A0 111 0 + 1 + j)) / 1000 ∧ 0 ≤ f j ∧ f j ≤ 3600000 ∧ 0 ≤ mTax (A0 111) nI o (A0 111 0 + 1 + j) ∧ mTax (A0 111) nI o (A0 111 0 + 1 + j) ≤ 3199968 ∧ (0 ≤ A0 111 (5 + 40 * o + (A0 111 0 + 1 + j)) ∧ A0 111 (5 + 40 * o + (A0 111 0 + 1 + j)) ≤ 900) := fun j hj => by
    have rb := (w7 o (A0 111 0 + 1 + j) g0 g1 (by omega) (by omega)).1
    have tb := mTax_b hW o (A0 111 0 + 1 + j)
    have q1 := tb.1
    have q2 : mTax (A0 111) nI o (A0 111 0 + 1 + j) ≤ 3199968 := by omega
    have hx := ztx_b q1 q2 rb.1 rb.2 (by omega)
    refine ⟨by rw [← hf], by rw [← hf]; exact hx.1, by rw [← hf]; exact hx.2, q1, q2, rb⟩
  have hp2 : Post (zI (zS f s)) T FR AR FI AI := by rw [← hf, ← es]; exact hp
  refine zv_iconst C dX9_liability_0 rfl ?_
  refine zv_istore_2 C dX9_liability_1 rfl rfl ?_
  refine zv_aload_n C dX9_liability_2 rfl rfl ?_
  refine zv_getR C dX9_liability_3 f_X9_74 hL.1 rfl hL.2.2.2.2.2.2.2.2.2.2.2.2.2.2.2.1 ?_
  refine zv_iconst C dX9_liability_6 rfl ?_
  refine zv_iaload C dX9_liability_7 hL.2.2.1 ⟨by omega, by omega⟩ ?_
  rw [e111]
  refine zv_iconst C dX9_liability_8 rfl ?_
  refine zv_iadd C dX9_liability_9 ⟨by omega, by omega⟩ ?_
  refine zv_istore_3 C dX9_liability_10 rfl rfl ?_
  suffices lp : ∀ d j : Nat, j + d = s → zV G 11 [some (zR 100), some (zI o), some (zI (zS f j)), some (zI (A0 111 0 + 1 + j))] [] T FR AR FI AI 0 0 from by
    have q := lp s 0 (by omega)
    rw [show A0 111 0 + 1 + ((0 : Nat) : Int) = A0 111 0 + 1 by omega] at q
    exact q
  intro d
  induction d with
  | zero =>
    intro j hj
    have ej : j = s := by omega
    subst ej
    refine zv_iload_n C dX9_liability_11 rfl ?_
    refine zv_bipush C dX9_liability_12 rfl ?_
    refine zv_icmp_ge C 41 dX9_liability_14 rfl (fun h14 => ?_) (fun h14 => absurd h14 (by omega))
    refine zv_iload_n C dX9_liability_41 rfl ?_
    refine zv_ireturn C dX9_liability_42 rfl rfl rfl rfl ?_
    exact hp2
  | succ d ih =>
    intro j hj
    have q := ih (j + 1) (by omega)
    rw [show A0 111 0 + 1 + ((j + 1 : Nat) : Int) = A0 111 0 + 1 + j + 1 by omega] at q
    obtain ⟨f1, f2, f3, f4, f5, f6⟩ := fb j (by omega)
    have sb1 := zS_nn (f := f) j (fun i a b => by have := (fb i.toNat (by omega)).2.1; rwa [Int.toNat_of_nonneg a] at this)
    have sb2 := zS_ub (f := f) (c := 3600000) j (fun i a b => by have := (fb i.toNat (by omega)).2.2.1; rwa [Int.toNat_of_nonneg a] at this)
    obtain ⟨c8, c9, c10, c11, c12, c13⟩ := i6 j (by omega)
    refine zv_iload_n C dX9_liability_11 rfl ?_
    refine zv_bipush C dX9_liability_12 rfl ?_
    refine zv_icmp_ge C 41 dX9_liability_14 rfl (fun h14 => absurd h14 (by omega)) (fun h14 => ?_)
    refine zv_iload_n C dX9_liability_17 rfl ?_
    refine zv_aload_n C dX9_liability_18 rfl rfl ?_
    refine zv_getR C dX9_liability_19 f_X9_89 hL.1 rfl hL.2.2.2.2.2.2.2.2.2.2.2.2.2.2.2.2.2.2.2.2.1 ?_
    refine zv_iload_n C dX9_liability_22 rfl ?_
    refine zv_iaload C dX9_liability_23 hL.2.2.2.2.2.2.2.1 ⟨by omega, by omega⟩ ?_
    rw [c8]
    refine zv_aload_n C dX9_liability_24 rfl rfl ?_
    refine zv_iload_n C dX9_liability_25 rfl ?_
    refine zv_iload_n C dX9_liability_26 rfl ?_
    refine zv_cVi0_2 C dX9_liability_27 k_X9_rateOf l_X9_207 hL.1 rfl ⟨Nat.le_of_ble_eq_true rfl, Nat.le_of_ble_eq_true rfl⟩ ⟨rfl, rfl⟩ ⟨Nat.le_of_ble_eq_true rfl, Nat.le_of_ble_eq_true rfl⟩ rfl rfl ?_
    refine s_X9_rateOf hL (by omega) (by omega) (by omega) (by omega) ?_
    rw [e111]
    refine zv_cSi0_2 C dX9_liability_30 k_X9_taxOn l_X9_210 ⟨Nat.le_of_ble_eq_true rfl, Nat.le_of_ble_eq_true rfl⟩ ⟨rfl, rfl⟩ ⟨Nat.le_of_ble_eq_true rfl, Nat.le_of_ble_eq_true rfl⟩ rfl rfl ?_
    refine s_X9_taxOn (by omega) (by omega) (by omega) (by omega) ?_
    rw [← f1]
    refine zv_iadd C dX9_liability_33 ⟨by omega, by omega⟩ ?_
    refine zv_istore_2 C dX9_liability_34 rfl rfl ?_
    refine zv_iinc_3 C dX9_liability_35 rfl rfl ⟨by omega, by omega⟩ ?_
    refine zv_goto C 11 dX9_liability_38 rfl ?_
    exact q

set_option maxRecDepth 20000 in
theorem s_X9_asset {T : zTt} {FR : zFR} {AR : zAR} {FI : zFI} {AI : zAI} {Post : zPost} {A0 : zAI} {o yr more : Int} {nI nL s : Nat} (hL : mLay T FR) (hW : mW (A0 111) nI nL) (hI : zSwI A0 AI (mDed (A0 111) nI o) (mCov (A0 111) nI o yr more) (mTax (A0 111) nI o) (A0 111 1) (mP0 (A0 111) nL o) (A0 111 0 + 1) s) (hs : A0 111 0 + 1 + s = 40) (g0 : 0 ≤ o) (g1 : o < 3) (g2 : 0 ≤ more) (g3 : more ≤ 99999) (hp : Post (zI (mAs (A0 111) nI nL o yr more)) T FR AR FI AI) : zMet M_X9_asset [zR 100, zI o] T FR AR FI AI Post := by
  refine zMet.of [some (zR 100), some (zI o), none, none] rfl rfl rfl (fun G C => ?_)
  obtain ⟨w0, w1, w2, w3, w4, w5, w6, w7, w8, w9⟩ := id hW
  obtain ⟨i1, i2, i3, i4, i5, i6⟩ := id hI
  have e111 : AI 111 = A0 111 := i1 111 (by decide)
  have es : (39 - A0 111 0).toNat = s := by omega
  generalize hf : (fun i => mU (A0 111) nI nL o yr more (A0 111 0 + 1 + i) * A0 111 (5 + 40 * o + (A0 111 0 + 1 + i)) / 1000) = f
  have fb : ∀ j : Nat, j < s → f j = mU (A0 111) nI nL o yr more (A0 111 0 + 1 + j) * A0 111 (5 + 40 * o + (A0 111 0 + 1 + j)) / 1000 ∧ 0 ≤ f j ∧ f j ≤ 3600000 ∧ 0 ≤ mU (A0 111) nI nL o yr more (A0 111 0 + 1 + j) ∧ mU (A0 111) nI nL o yr more (A0 111 0 + 1 + j) ≤ 3199968 ∧ (0 ≤ A0 111 (5 + 40 * o + (A0 111 0 + 1 + j)) ∧ A0 111 (5 + 40 * o + (A0 111 0 + 1 + j)) ≤ 900) := fun j hj => by
    have rb := (w7 o (A0 111 0 + 1 + j) g0 g1 (by omega) (by omega)).1
    have tb := mU_b hW (yr := yr) (r := j) g0 g1 g2 g3 (by omega)
    have cb := mCov_b hW (yr := yr) (t := A0 111 0 + 1 + j) g0 g1 g2 g3 (by omega) (by omega)
    have q1 := tb.1
    have q2 : mU (A0 111) nI nL o yr more (A0 111 0 + 1 + j) ≤ 3199968 := by omega
    have hx := ztx_b q1 q2 rb.1 rb.2 (by omega)
    refine ⟨by rw [← hf], by rw [← hf]; exact hx.1, by rw [← hf]; exact hx.2, q1, q2, rb⟩
  have hp2 : Post (zI (zS f s)) T FR AR FI AI := by rw [← hf, ← es]; exact hp
  refine zv_iconst C dX9_asset_0 rfl ?_
  refine zv_istore_2 C dX9_asset_1 rfl rfl ?_
  refine zv_aload_n C dX9_asset_2 rfl rfl ?_
  refine zv_getR C dX9_asset_3 f_X9_74 hL.1 rfl hL.2.2.2.2.2.2.2.2.2.2.2.2.2.2.2.1 ?_
  refine zv_iconst C dX9_asset_6 rfl ?_
  refine zv_iaload C dX9_asset_7 hL.2.2.1 ⟨by omega, by omega⟩ ?_
  rw [e111]
  refine zv_iconst C dX9_asset_8 rfl ?_
  refine zv_iadd C dX9_asset_9 ⟨by omega, by omega⟩ ?_
  refine zv_istore_3 C dX9_asset_10 rfl rfl ?_
  suffices lp : ∀ d j : Nat, j + d = s → zV G 11 [some (zR 100), some (zI o), some (zI (zS f j)), some (zI (A0 111 0 + 1 + j))] [] T FR AR FI AI 0 0 from by
    have q := lp s 0 (by omega)
    rw [show A0 111 0 + 1 + ((0 : Nat) : Int) = A0 111 0 + 1 by omega] at q
    exact q
  intro d
  induction d with
  | zero =>
    intro j hj
    have ej : j = s := by omega
    subst ej
    refine zv_iload_n C dX9_asset_11 rfl ?_
    refine zv_bipush C dX9_asset_12 rfl ?_
    refine zv_icmp_ge C 40 dX9_asset_14 rfl (fun h14 => ?_) (fun h14 => absurd h14 (by omega))
    refine zv_iload_n C dX9_asset_40 rfl ?_
    refine zv_ireturn C dX9_asset_41 rfl rfl rfl rfl ?_
    exact hp2
  | succ d ih =>
    intro j hj
    have q := ih (j + 1) (by omega)
    rw [show A0 111 0 + 1 + ((j + 1 : Nat) : Int) = A0 111 0 + 1 + j + 1 by omega] at q
    obtain ⟨f1, f2, f3, f4, f5, f6⟩ := fb j (by omega)
    have sb1 := zS_nn (f := f) j (fun i a b => by have := (fb i.toNat (by omega)).2.1; rwa [Int.toNat_of_nonneg a] at this)
    have sb2 := zS_ub (f := f) (c := 3600000) j (fun i a b => by have := (fb i.toNat (by omega)).2.2.1; rwa [Int.toNat_of_nonneg a] at this)
    obtain ⟨c8, c9, c10, c11, c12, c13⟩ := i6 j (by omega)
    refine zv_iload_n C dX9_asset_11 rfl ?_
    refine zv_bipush C dX9_asset_12 rfl ?_
    refine zv_icmp_ge C 40 dX9_asset_14 rfl (fun h14 => absurd h14 (by omega)) (fun h14 => ?_)
    refine zv_iload_n C dX9_asset_17 rfl ?_
    refine zv_aload_n C dX9_asset_18 rfl rfl ?_
    refine zv_iload_n C dX9_asset_19 rfl ?_
    refine zv_cVi0_1 C dX9_asset_20 k_X9_used l_X9_213 hL.1 rfl ⟨Nat.le_of_ble_eq_true rfl, Nat.le_of_ble_eq_true rfl⟩ ⟨rfl, rfl⟩ ⟨Nat.le_of_ble_eq_true rfl, Nat.le_of_ble_eq_true rfl⟩ rfl rfl ?_
    refine s_X9_used hL (by omega) (by omega) (by rw [c11, c12, ← mU_at]; exact ⟨by omega, by omega⟩) ?_
    rw [c11, c12, ← mU_at]
    refine zv_aload_n C dX9_asset_23 rfl rfl ?_
    refine zv_iload_n C dX9_asset_24 rfl ?_
    refine zv_iload_n C dX9_asset_25 rfl ?_
    refine zv_cVi0_2 C dX9_asset_26 k_X9_rateOf l_X9_207 hL.1 rfl ⟨Nat.le_of_ble_eq_true rfl, Nat.le_of_ble_eq_true rfl⟩ ⟨rfl, rfl⟩ ⟨Nat.le_of_ble_eq_true rfl, Nat.le_of_ble_eq_true rfl⟩ rfl rfl ?_
    refine s_X9_rateOf hL (by omega) (by omega) (by omega) (by omega) ?_
    rw [e111]
    refine zv_cSi0_2 C dX9_asset_29 k_X9_taxOn l_X9_210 ⟨Nat.le_of_ble_eq_true rfl, Nat.le_of_ble_eq_true rfl⟩ ⟨rfl, rfl⟩ ⟨Nat.le_of_ble_eq_true rfl, Nat.le_of_ble_eq_true rfl⟩ rfl rfl ?_
    refine s_X9_taxOn (by omega) (by omega) (by omega) (by omega) ?_
    rw [← f1]
    refine zv_iadd C dX9_asset_32 ⟨by omega, by omega⟩ ?_
    refine zv_istore_2 C dX9_asset_33 rfl rfl ?_
    refine zv_iinc_3 C dX9_asset_34 rfl rfl ⟨by omega, by omega⟩ ?_
    refine zv_goto C 11 dX9_asset_37 rfl ?_
    exact q

theorem zS_t {f : Int → Int} {j : Nat} {v : Int} (h : f j = v) : zS f (j + 1) = zS f j + v := by rw [← h]; rfl
theorem zS_f {f : Int → Int} {j : Nat} (h : f j = 0) : zS f (j + 1) = zS f j := by show zS f j + f j = _; rw [h, Int.add_zero]
set_option maxRecDepth 20000 in
theorem s_X9_unrecognised {T : zTt} {FR : zFR} {AR : zAR} {FI : zFI} {AI : zAI} {Post : zPost} {A0 : zAI} {o yr more : Int} {nI nL s : Nat} (hL : mLay T FR) (hW : mW (A0 111) nI nL) (hI : zSwI A0 AI (mDed (A0 111) nI o) (mCov (A0 111) nI o yr more) (mTax (A0 111) nI o) (A0 111 1) (mP0 (A0 111) nL o) (A0 111 0 + 1) s) (hs : A0 111 0 + 1 + s = 40) (g0 : 0 ≤ o) (g1 : o < 3) (g2 : 0 ≤ more) (g3 : more ≤ 99999) (hp : Post (zI (mUn (A0 111) nI nL o yr more)) T FR AR FI AI) : zMet M_X9_unrecognised [zR 100, zI o] T FR AR FI AI Post := by
  refine zMet.of [some (zR 100), some (zI o), none, none] rfl rfl rfl (fun G C => ?_)
  obtain ⟨w0, w1, w2, w3, w4, w5, w6, w7, w8, w9⟩ := id hW
  obtain ⟨i1, i2, i3, i4, i5, i6⟩ := id hI
  have e111 : AI 111 = A0 111 := i1 111 (by decide)
  have es : (39 - A0 111 0).toNat = s := by omega
  generalize hfa : (fun i => if mIt (A0 111) i 0 = o ∧ mIt (A0 111) i 1 = 0 then zOpen (mIt (A0 111)) (A0 111 0) i else 0) = fa
  generalize hfb : (fun l => if mLo (A0 111) l 0 = o ∧ A0 111 0 < mLo (A0 111) l 2 then mLo (A0 111) l 3 else 0) = fb
  generalize hfu : (fun i => mU (A0 111) nI nL o yr more (A0 111 0 + 1 + i)) = fu
  have hp2 : Post (zI (zS fa nI + zS fb nL - zS fu s)) T FR AR FI AI := by rw [← hfa, ← hfb, ← hfu, ← es]; exact hp
  have ab : ∀ i : Int, 0 ≤ i → i < nI → (fa i = if A0 111 (245 + 5 * i + 0) = o ∧ A0 111 (245 + 5 * i + 1) = 0 then zOpen (mIt (A0 111)) (A0 111 0) i else 0) ∧ (0 ≤ zOpen (mIt (A0 111)) (A0 111 0) i ∧ zOpen (mIt (A0 111)) (A0 111 0) i ≤ 99999) ∧ (0 ≤ fa i ∧ fa i ≤ 99999) := fun i h0 h1 => by
    have wi := w8 i h0 h1
    have ub := zUp_b wi (A0 111 0)
    have su := wi.2.2.1
    have ob : 0 ≤ zOpen (mIt (A0 111)) (A0 111 0) i ∧ zOpen (mIt (A0 111)) (A0 111 0) i ≤ 99999 := by unfold zOpen; omega
    refine ⟨by rw [← hfa], ob, ?_⟩
    rw [← hfa]; dsimp only; split <;> omega
  have bb : ∀ i : Int, 0 ≤ i → i < nL → (fb i = if A0 111 (395 + 4 * i + 0) = o ∧ A0 111 0 < A0 111 (395 + 4 * i + 2) then A0 111 (395 + 4 * i + 3) else 0) ∧ (0 ≤ A0 111 (395 + 4 * i + 3) ∧ A0 111 (395 + 4 * i + 3) ≤ 3000000) ∧ (0 ≤ fb i ∧ fb i ≤ 3000000) := fun i h0 h1 => by
    obtain ⟨-, q1, q2, q3⟩ := w9 i h0 h1
    simp only [mLo] at q1 q2 q3
    refine ⟨by rw [← hfb], by omega, ?_⟩
    rw [← hfb]; dsimp only [mLo]; split <;> omega
  have ubd : ∀ j : Nat, j < s → fu j = mU (A0 111) nI nL o yr more (A0 111 0 + 1 + j) ∧ 0 ≤ fu j ∧ fu j ≤ 3199968 := fun j hj => by
    have tb := mU_b hW (yr := yr) (r := j) g0 g1 g2 g3 (by omega)
    have cb := mCov_b hW (yr := yr) (t := A0 111 0 + 1 + j) g0 g1 g2 g3 (by omega) (by omega)
    refine ⟨by rw [← hfu], by rw [← hfu]; exact tb.1, by rw [← hfu]; dsimp only; omega⟩
  have sa1 := zS_nn (f := fa) nI (fun i a b => (ab i a b).2.2.1)
  have sa2 := zS_ub (f := fa) (c := 99999) nI (fun i a b => (ab i a b).2.2.2)
  have sb1 := zS_nn (f := fb) nL (fun i a b => (bb i a b).2.2.1)
  have sb2 := zS_ub (f := fb) (c := 3000000) nL (fun i a b => (bb i a b).2.2.2)
  have e3 : AI 111 3 = nI := by rw [e111]; exact w3
  have e4 : AI 111 4 = nL := by rw [e111]; exact w5
  suffices lp3 : ∀ d j : Nat, j + d = s → zV G 108 [some (zR 100), some (zI o), some (zI (zS fa nI + zS fb nL - zS fu j)), some (zI (A0 111 0 + 1 + j))] [] T FR AR FI AI 0 0 from by
    suffices lp2 : ∀ d j : Nat, j + d = nL → zV G 49 [some (zR 100), some (zI o), some (zI (zS fa nI + zS fb j)), some (zI (j : Int))] [] T FR AR FI AI 0 0 from by
      suffices lp1 : ∀ d j : Nat, j + d = nI → zV G 4 [some (zR 100), some (zI o), some (zI (zS fa j)), some (zI (j : Int))] [] T FR AR FI AI 0 0 from by
        refine zv_iconst C dX9_unrecognised_0 rfl ?_
        refine zv_istore_2 C dX9_unrecognised_1 rfl rfl ?_
        refine zv_iconst C dX9_unrecognised_2 rfl ?_
        refine zv_istore_3 C dX9_unrecognised_3 rfl rfl ?_
        exact lp1 nI 0 (by omega)
      intro d
      induction d with
      | zero =>
        intro j hj
        have ej : j = nI := by omega
        subst ej
        refine zv_iload_n C dX9_unrecognised_4 rfl ?_
        refine zv_aload_n C dX9_unrecognised_5 rfl rfl ?_
        refine zv_getR C dX9_unrecognised_6 f_X9_74 hL.1 rfl hL.2.2.2.2.2.2.2.2.2.2.2.2.2.2.2.1 ?_
        refine zv_iconst C dX9_unrecognised_9 rfl ?_
        refine zv_iaload C dX9_unrecognised_10 hL.2.2.1 ⟨by omega, by omega⟩ ?_
        refine zv_icmp_ge C 47 dX9_unrecognised_11 rfl (fun h11 => ?_) (fun h11 => absurd h11 (by omega))
        refine zv_iconst C dX9_unrecognised_47 rfl ?_
        refine zv_istore_3 C dX9_unrecognised_48 rfl rfl ?_
        have q := lp2 nL 0 (by omega)
        rw [show zS fa j + zS fb 0 = zS fa j from Int.add_zero _] at q
        exact q
      | succ d ih =>
        intro j hj
        have q := ih (j + 1) (by omega)
        obtain ⟨a1, a2, a3⟩ := ab j (by omega) (by omega)
        have s1 := zS_nn (f := fa) j (fun i a b => (ab i a (by omega)).2.2.1)
        have s2 := zS_ub (f := fa) (c := 99999) j (fun i a b => (ab i a (by omega)).2.2.2)
        refine zv_iload_n C dX9_unrecognised_4 rfl ?_
        refine zv_aload_n C dX9_unrecognised_5 rfl rfl ?_
        refine zv_getR C dX9_unrecognised_6 f_X9_74 hL.1 rfl hL.2.2.2.2.2.2.2.2.2.2.2.2.2.2.2.1 ?_
        refine zv_iconst C dX9_unrecognised_9 rfl ?_
        refine zv_iaload C dX9_unrecognised_10 hL.2.2.1 ⟨by omega, by omega⟩ ?_
        refine zv_icmp_ge C 47 dX9_unrecognised_11 rfl (fun h11 => absurd h11 (by omega)) (fun h11 => ?_)
        refine zv_aload_n C dX9_unrecognised_14 rfl rfl ?_
        refine zv_iload_n C dX9_unrecognised_15 rfl ?_
        refine zv_iconst C dX9_unrecognised_16 rfl ?_
        refine zv_cVi0_2 C dX9_unrecognised_17 k_X9_its l_X9_179 hL.1 rfl ⟨Nat.le_of_ble_eq_true rfl, Nat.le_of_ble_eq_true rfl⟩ ⟨rfl, rfl⟩ ⟨Nat.le_of_ble_eq_true rfl, Nat.le_of_ble_eq_true rfl⟩ rfl rfl ?_
        refine s_X9_its hL (by omega) (by omega) (by omega) (by omega) ?_
        rw [e111]
        refine zv_iload_n C dX9_unrecognised_20 rfl ?_
        refine zv_icmp_ne C 41 dX9_unrecognised_21 rfl (fun h21 => ?_) (fun h21 => ?_)
        · refine zv_iinc_3 C dX9_unrecognised_41 rfl rfl ⟨by omega, by omega⟩ ?_
          refine zv_goto C 4 dX9_unrecognised_44 rfl ?_
          first | (rw [if_pos ⟨by omega, by omega⟩] at a1; rw [zS_t a1] at q; exact q) | (rw [if_neg (by omega)] at a1; rw [zS_f a1] at q; exact q)
        · refine zv_aload_n C dX9_unrecognised_24 rfl rfl ?_
          refine zv_iload_n C dX9_unrecognised_25 rfl ?_
          refine zv_iconst C dX9_unrecognised_26 rfl ?_
          refine zv_cVi0_2 C dX9_unrecognised_27 k_X9_its l_X9_179 hL.1 rfl ⟨Nat.le_of_ble_eq_true rfl, Nat.le_of_ble_eq_true rfl⟩ ⟨rfl, rfl⟩ ⟨Nat.le_of_ble_eq_true rfl, Nat.le_of_ble_eq_true rfl⟩ rfl rfl ?_
          refine s_X9_its hL (by omega) (by omega) (by omega) (by omega) ?_
          rw [e111]
          refine zv_if_ne C 41 dX9_unrecognised_30 rfl (fun h30 => ?_) (fun h30 => ?_)
          · refine zv_iinc_3 C dX9_unrecognised_41 rfl rfl ⟨by omega, by omega⟩ ?_
            refine zv_goto C 4 dX9_unrecognised_44 rfl ?_
            first | (rw [if_pos ⟨by omega, by omega⟩] at a1; rw [zS_t a1] at q; exact q) | (rw [if_neg (by omega)] at a1; rw [zS_f a1] at q; exact q)
          · refine zv_iload_n C dX9_unrecognised_33 rfl ?_
            refine zv_aload_n C dX9_unrecognised_34 rfl rfl ?_
            refine zv_iload_n C dX9_unrecognised_35 rfl ?_
            refine zv_cVi0_1 C dX9_unrecognised_36 k_X9_openOf l_X9_216 hL.1 rfl ⟨Nat.le_of_ble_eq_true rfl, Nat.le_of_ble_eq_true rfl⟩ ⟨rfl, rfl⟩ ⟨Nat.le_of_ble_eq_true rfl, Nat.le_of_ble_eq_true rfl⟩ rfl rfl ?_
            refine s_X9_openOf hL (by omega) (by omega) (by rw [e111]; exact w8 j (by omega) (by omega)) (by rw [e111]; omega) (by rw [e111]; omega) ?_
            rw [e111]
            refine zv_iadd C dX9_unrecognised_39 ⟨by omega, by omega⟩ ?_
            refine zv_istore_2 C dX9_unrecognised_40 rfl rfl ?_
            refine zv_iinc_3 C dX9_unrecognised_41 rfl rfl ⟨by omega, by omega⟩ ?_
            refine zv_goto C 4 dX9_unrecognised_44 rfl ?_
            first | (rw [if_pos ⟨by omega, by omega⟩] at a1; rw [zS_t a1] at q; exact q) | (rw [if_neg (by omega)] at a1; rw [zS_f a1] at q; exact q)
    intro d
    induction d with
    | zero =>
      intro j hj
      have ej : j = nL := by omega
      subst ej
      refine zv_iload_n C dX9_unrecognised_49 rfl ?_
      refine zv_aload_n C dX9_unrecognised_50 rfl rfl ?_
      refine zv_getR C dX9_unrecognised_51 f_X9_74 hL.1 rfl hL.2.2.2.2.2.2.2.2.2.2.2.2.2.2.2.1 ?_
      refine zv_iconst C dX9_unrecognised_54 rfl ?_
      refine zv_iaload C dX9_unrecognised_55 hL.2.2.1 ⟨by omega, by omega⟩ ?_
      refine zv_icmp_ge C 99 dX9_unrecognised_56 rfl (fun h56 => ?_) (fun h56 => absurd h56 (by omega))
      refine zv_aload_n C dX9_unrecognised_99 rfl rfl ?_
      refine zv_getR C dX9_unrecognised_100 f_X9_74 hL.1 rfl hL.2.2.2.2.2.2.2.2.2.2.2.2.2.2.2.1 ?_
      refine zv_iconst C dX9_unrecognised_103 rfl ?_
      refine zv_iaload C dX9_unrecognised_104 hL.2.2.1 ⟨by omega, by omega⟩ ?_
      rw [e111]
      refine zv_iconst C dX9_unrecognised_105 rfl ?_
      refine zv_iadd C dX9_unrecognised_106 ⟨by omega, by omega⟩ ?_
      refine zv_istore_3 C dX9_unrecognised_107 rfl rfl ?_
      have q := lp3 s 0 (by omega)
      rw [show zS fa nI + zS fb j - zS fu 0 = zS fa nI + zS fb j from Int.sub_zero _, show A0 111 0 + 1 + ((0 : Nat) : Int) = A0 111 0 + 1 by omega] at q
      exact q
    | succ d ih =>
      intro j hj
      have q := ih (j + 1) (by omega)
      obtain ⟨a1, a2, a3⟩ := bb j (by omega) (by omega)
      have s1 := zS_nn (f := fb) j (fun i a b => (bb i a (by omega)).2.2.1)
      have s2 := zS_ub (f := fb) (c := 3000000) j (fun i a b => (bb i a (by omega)).2.2.2)
      refine zv_iload_n C dX9_unrecognised_49 rfl ?_
      refine zv_aload_n C dX9_unrecognised_50 rfl rfl ?_
      refine zv_getR C dX9_unrecognised_51 f_X9_74 hL.1 rfl hL.2.2.2.2.2.2.2.2.2.2.2.2.2.2.2.1 ?_
      refine zv_iconst C dX9_unrecognised_54 rfl ?_
      refine zv_iaload C dX9_unrecognised_55 hL.2.2.1 ⟨by omega, by omega⟩ ?_
      refine zv_icmp_ge C 99 dX9_unrecognised_56 rfl (fun h56 => absurd h56 (by omega)) (fun h56 => ?_)
      refine zv_aload_n C dX9_unrecognised_59 rfl rfl ?_
      refine zv_iload_n C dX9_unrecognised_60 rfl ?_
      refine zv_iconst C dX9_unrecognised_61 rfl ?_
      refine zv_cVi0_2 C dX9_unrecognised_62 k_X9_lost l_X9_189 hL.1 rfl ⟨Nat.le_of_ble_eq_true rfl, Nat.le_of_ble_eq_true rfl⟩ ⟨rfl, rfl⟩ ⟨Nat.le_of_ble_eq_true rfl, Nat.le_of_ble_eq_true rfl⟩ rfl rfl ?_
      refine s_X9_lost hL (by omega) (by omega) (by omega) (by omega) ?_
      rw [e111]
      refine zv_iload_n C dX9_unrecognised_65 rfl ?_
      refine zv_icmp_ne C 93 dX9_unrecognised_66 rfl (fun h66 => ?_) (fun h66 => ?_)
      · refine zv_iinc_3 C dX9_unrecognised_93 rfl rfl ⟨by omega, by omega⟩ ?_
        refine zv_goto C 49 dX9_unrecognised_96 rfl ?_
        first | (rw [if_pos ⟨by omega, by omega⟩] at a1; rw [zS_t a1, ← Int.add_assoc] at q; exact q) | (rw [if_neg (by omega)] at a1; rw [zS_f a1] at q; exact q)
      · refine zv_aload_n C dX9_unrecognised_69 rfl rfl ?_
        refine zv_iload_n C dX9_unrecognised_70 rfl ?_
        refine zv_iconst C dX9_unrecognised_71 rfl ?_
        refine zv_cVi0_2 C dX9_unrecognised_72 k_X9_lost l_X9_189 hL.1 rfl ⟨Nat.le_of_ble_eq_true rfl, Nat.le_of_ble_eq_true rfl⟩ ⟨rfl, rfl⟩ ⟨Nat.le_of_ble_eq_true rfl, Nat.le_of_ble_eq_true rfl⟩ rfl rfl ?_
        refine s_X9_lost hL (by omega) (by omega) (by omega) (by omega) ?_
        rw [e111]
        refine zv_aload_n C dX9_unrecognised_75 rfl rfl ?_
        refine zv_getR C dX9_unrecognised_76 f_X9_74 hL.1 rfl hL.2.2.2.2.2.2.2.2.2.2.2.2.2.2.2.1 ?_
        refine zv_iconst C dX9_unrecognised_79 rfl ?_
        refine zv_iaload C dX9_unrecognised_80 hL.2.2.1 ⟨by omega, by omega⟩ ?_
        rw [e111]
        refine zv_icmp_le C 93 dX9_unrecognised_81 rfl (fun h81 => ?_) (fun h81 => ?_)
        · refine zv_iinc_3 C dX9_unrecognised_93 rfl rfl ⟨by omega, by omega⟩ ?_
          refine zv_goto C 49 dX9_unrecognised_96 rfl ?_
          first | (rw [if_pos ⟨by omega, by omega⟩] at a1; rw [zS_t a1, ← Int.add_assoc] at q; exact q) | (rw [if_neg (by omega)] at a1; rw [zS_f a1] at q; exact q)
        · refine zv_iload_n C dX9_unrecognised_84 rfl ?_
          refine zv_aload_n C dX9_unrecognised_85 rfl rfl ?_
          refine zv_iload_n C dX9_unrecognised_86 rfl ?_
          refine zv_iconst C dX9_unrecognised_87 rfl ?_
          refine zv_cVi0_2 C dX9_unrecognised_88 k_X9_lost l_X9_189 hL.1 rfl ⟨Nat.le_of_ble_eq_true rfl, Nat.le_of_ble_eq_true rfl⟩ ⟨rfl, rfl⟩ ⟨Nat.le_of_ble_eq_true rfl, Nat.le_of_ble_eq_true rfl⟩ rfl rfl ?_
          refine s_X9_lost hL (by omega) (by omega) (by omega) (by omega) ?_
          rw [e111]
          refine zv_iadd C dX9_unrecognised_91 ⟨by omega, by omega⟩ ?_
          refine zv_istore_2 C dX9_unrecognised_92 rfl rfl ?_
          refine zv_iinc_3 C dX9_unrecognised_93 rfl rfl ⟨by omega, by omega⟩ ?_
          refine zv_goto C 49 dX9_unrecognised_96 rfl ?_
          first | (rw [if_pos ⟨by omega, by omega⟩] at a1; rw [zS_t a1, ← Int.add_assoc] at q; exact q) | (rw [if_neg (by omega)] at a1; rw [zS_f a1] at q; exact q)
  intro d
  induction d with
  | zero =>
    intro j hj
    have ej : j = s := by omega
    subst ej
    refine zv_iload_n C dX9_unrecognised_108 rfl ?_
    refine zv_bipush C dX9_unrecognised_109 rfl ?_
    refine zv_icmp_ge C 128 dX9_unrecognised_111 rfl (fun h111 => ?_) (fun h111 => absurd h111 (by omega))
    refine zv_iload_n C dX9_unrecognised_128 rfl ?_
    refine zv_ireturn C dX9_unrecognised_129 rfl rfl rfl rfl ?_
    exact hp2
  | succ d ih =>
    intro j hj
    have q := ih (j + 1) (by omega)
    rw [show A0 111 0 + 1 + ((j + 1 : Nat) : Int) = A0 111 0 + 1 + j + 1 by omega, zS_t (ubd j (by omega)).1, show ∀ a b c : Int, a - (b + c) = a - b - c from by omega] at q
    have f9 := ubd j (by omega)
    have s1 := zS_nn (f := fu) j (fun i a b => by have := (ubd i.toNat (by omega)).2.1; rwa [Int.toNat_of_nonneg a] at this)
    have s2 := zS_ub (f := fu) (c := 3199968) j (fun i a b => by have := (ubd i.toNat (by omega)).2.2; rwa [Int.toNat_of_nonneg a] at this)
    obtain ⟨c8, c9, c10, c11, c12, c13⟩ := i6 j (by omega)
    rw [f9.1] at f9
    refine zv_iload_n C dX9_unrecognised_108 rfl ?_
    refine zv_bipush C dX9_unrecognised_109 rfl ?_
    refine zv_icmp_ge C 128 dX9_unrecognised_111 rfl (fun h111 => absurd h111 (by omega)) (fun h111 => ?_)
    refine zv_iload_n C dX9_unrecognised_114 rfl ?_
    refine zv_aload_n C dX9_unrecognised_115 rfl rfl ?_
    refine zv_iload_n C dX9_unrecognised_116 rfl ?_
    refine zv_cVi0_1 C dX9_unrecognised_117 k_X9_used l_X9_213 hL.1 rfl ⟨Nat.le_of_ble_eq_true rfl, Nat.le_of_ble_eq_true rfl⟩ ⟨rfl, rfl⟩ ⟨Nat.le_of_ble_eq_true rfl, Nat.le_of_ble_eq_true rfl⟩ rfl rfl ?_
    refine s_X9_used hL (by omega) (by omega) (by rw [c11, c12, ← mU_at]; exact ⟨by omega, by omega⟩) ?_
    rw [c11, c12, ← mU_at]
    refine zv_isub C dX9_unrecognised_120 ⟨by omega, by omega⟩ ?_
    refine zv_istore_2 C dX9_unrecognised_121 rfl rfl ?_
    refine zv_iinc_3 C dX9_unrecognised_122 rfl rfl ⟨by omega, by omega⟩ ?_
    refine zv_goto C 108 dX9_unrecognised_125 rfl ?_
    exact q

theorem mLi_b {N : Int → Int} {nI nL : Nat} (hW : mW N nI nL) {o : Int} (g0 : 0 ≤ o) (g1 : o < 3) : 0 ≤ mLi N nI o ∧ mLi N nI o ≤ 150000000 := by
  have hn := hW.1
  have h : ∀ i : Int, 0 ≤ i → i < (39 - N 0).toNat → 0 ≤ mTax N nI o (N 0 + 1 + i) * N (5 + 40 * o + (N 0 + 1 + i)) / 1000 ∧ mTax N nI o (N 0 + 1 + i) * N (5 + 40 * o + (N 0 + 1 + i)) / 1000 ≤ 3600000 := fun i a b => by
    have tb := mTax_b hW o (N 0 + 1 + i)
    have rb := (hW.2.2.2.2.2.2.2.1 o (N 0 + 1 + i) g0 g1 (by omega) (by omega)).1
    exact ztx_b tb.1 tb.2 rb.1 rb.2 (by omega)
  have h1 := zS_nn _ (fun i a b => (h i a b).1)
  have h2 := zS_ub _ (fun i a b => (h i a b).2)
  unfold mLi
  omega
theorem mAs_b {N : Int → Int} {nI nL : Nat} (hW : mW N nI nL) {o yr more : Int} (g0 : 0 ≤ o) (g1 : o < 3) (g2 : 0 ≤ more) (g3 : more ≤ 99999) : 0 ≤ mAs N nI nL o yr more ∧ mAs N nI nL o yr more ≤ 150000000 := by
  have hn := hW.1
  have h : ∀ i : Int, 0 ≤ i → i < (39 - N 0).toNat → 0 ≤ mU N nI nL o yr more (N 0 + 1 + i) * N (5 + 40 * o + (N 0 + 1 + i)) / 1000 ∧ mU N nI nL o yr more (N 0 + 1 + i) * N (5 + 40 * o + (N 0 + 1 + i)) / 1000 ≤ 3600000 := fun i a b => by
    have tb := mU_b hW (yr := yr) (r := i.toNat) g0 g1 g2 g3 (by omega)
    have cb := mCov_b hW (yr := yr) (t := N 0 + 1 + i) g0 g1 g2 g3 (by omega) (by omega)
    rw [Int.toNat_of_nonneg a] at tb
    have rb := (hW.2.2.2.2.2.2.2.1 o (N 0 + 1 + i) g0 g1 (by omega) (by omega)).1
    exact ztx_b tb.1 (show _ ≤ 3199968 by omega) rb.1 rb.2 (by omega)
  have h1 := zS_nn _ (fun i a b => (h i a b).1)
  have h2 := zS_ub _ (fun i a b => (h i a b).2)
  unfold mAs
  omega
set_option maxRecDepth 20000 in
theorem s_X9_balanceOf {T : zTt} {FR : zFR} {AR : zAR} {FI : zFI} {AI : zAI} {Post : zPost} {o what : Int} {nI nL : Nat} (hL : mLay T FR) (hW : mW (AI 111) nI nL) (g0 : 0 ≤ o) (g1 : o < 3) (hp : ∀ A1 : zAI, zFr AI A1 → Post (zI (mBal (AI 111) nI nL o what)) T FR AR FI A1) : zMet M_X9_balanceOf [zR 100, zI o, zI what] T FR AR FI AI Post := by
  refine zMet.of [some (zR 100), some (zI o), some (zI what)] rfl rfl rfl (fun G C => ?_)
  have lb := mLi_b hW g0 g1
  have ab := mAs_b hW (yr := -1) (more := 0) g0 g1 (by omega) (by omega)
  refine zv_aload_n C dX9_balanceOf_0 rfl rfl ?_
  refine zv_iload_n C dX9_balanceOf_1 rfl ?_
  refine zv_iconst C dX9_balanceOf_2 rfl ?_
  refine zv_iconst C dX9_balanceOf_3 rfl ?_
  refine zv_cVv0_3 C dX9_balanceOf_4 k_X9_sweeps l_X9_219 hL.1 rfl ⟨Nat.le_of_ble_eq_true rfl, Nat.le_of_ble_eq_true rfl⟩ ⟨rfl, rfl⟩ ⟨Nat.le_of_ble_eq_true rfl, Nat.le_of_ble_eq_true rfl⟩ rfl rfl ?_
  refine s_X9_sweeps hL hW g0 g1 (by omega) (by omega) (fun A1 s hs hI => ?_)
  refine zv_iload_n C dX9_balanceOf_7 rfl ?_
  refine zv_if_ne C 19 dX9_balanceOf_8 rfl (fun h8 => ?_) (fun h8 => ?_)
  · refine zv_iload_n C dX9_balanceOf_19 rfl ?_
    refine zv_iconst C dX9_balanceOf_20 rfl ?_
    refine zv_icmp_ne C 32 dX9_balanceOf_21 rfl (fun h21 => ?_) (fun h21 => ?_)
    · refine zv_iload_n C dX9_balanceOf_32 rfl ?_
      refine zv_iconst C dX9_balanceOf_33 rfl ?_
      refine zv_icmp_ne C 45 dX9_balanceOf_34 rfl (fun h34 => ?_) (fun h34 => ?_)
      · refine zv_aload_n C dX9_balanceOf_45 rfl rfl ?_
        refine zv_iload_n C dX9_balanceOf_46 rfl ?_
        refine zv_cVi0_1 C dX9_balanceOf_47 k_X9_asset l_X9_226 hL.1 rfl ⟨Nat.le_of_ble_eq_true rfl, Nat.le_of_ble_eq_true rfl⟩ ⟨rfl, rfl⟩ ⟨Nat.le_of_ble_eq_true rfl, Nat.le_of_ble_eq_true rfl⟩ rfl rfl ?_
        refine s_X9_asset hL hW hI hs g0 g1 (by omega) (by omega) ?_
        refine zv_aload_n C dX9_balanceOf_50 rfl rfl ?_
        refine zv_iload_n C dX9_balanceOf_51 rfl ?_
        refine zv_cVi0_1 C dX9_balanceOf_52 k_X9_liability l_X9_223 hL.1 rfl ⟨Nat.le_of_ble_eq_true rfl, Nat.le_of_ble_eq_true rfl⟩ ⟨rfl, rfl⟩ ⟨Nat.le_of_ble_eq_true rfl, Nat.le_of_ble_eq_true rfl⟩ rfl rfl ?_
        refine s_X9_liability hL hW hI hs g0 g1 (by omega) (by omega) ?_
        refine zv_isub C dX9_balanceOf_55 ⟨by omega, by omega⟩ ?_
        refine zv_ireturn C dX9_balanceOf_56 rfl rfl rfl rfl ?_
        have q := hp A1 hI.1
        unfold mBal at q
        first | (rw [if_pos (by omega)] at q; exact q) | (rw [if_neg (by omega), if_pos (by omega)] at q; exact q) | (rw [if_neg (by omega), if_neg (by omega), if_pos (by omega)] at q; exact q) | (rw [if_neg (by omega), if_neg (by omega), if_neg (by omega)] at q; exact q)
      · refine zv_aload_n C dX9_balanceOf_37 rfl rfl ?_
        refine zv_iload_n C dX9_balanceOf_38 rfl ?_
        refine zv_cVi0_1 C dX9_balanceOf_39 k_X9_unrecognised l_X9_229 hL.1 rfl ⟨Nat.le_of_ble_eq_true rfl, Nat.le_of_ble_eq_true rfl⟩ ⟨rfl, rfl⟩ ⟨Nat.le_of_ble_eq_true rfl, Nat.le_of_ble_eq_true rfl⟩ rfl rfl ?_
        refine s_X9_unrecognised hL hW hI hs g0 g1 (by omega) (by omega) ?_
        refine zv_goto C 56 dX9_balanceOf_42 rfl ?_
        refine zv_ireturn C dX9_balanceOf_56 rfl rfl rfl rfl ?_
        have q := hp A1 hI.1
        unfold mBal at q
        first | (rw [if_pos (by omega)] at q; exact q) | (rw [if_neg (by omega), if_pos (by omega)] at q; exact q) | (rw [if_neg (by omega), if_neg (by omega), if_pos (by omega)] at q; exact q) | (rw [if_neg (by omega), if_neg (by omega), if_neg (by omega)] at q; exact q)
    · refine zv_aload_n C dX9_balanceOf_24 rfl rfl ?_
      refine zv_iload_n C dX9_balanceOf_25 rfl ?_
      refine zv_cVi0_1 C dX9_balanceOf_26 k_X9_asset l_X9_226 hL.1 rfl ⟨Nat.le_of_ble_eq_true rfl, Nat.le_of_ble_eq_true rfl⟩ ⟨rfl, rfl⟩ ⟨Nat.le_of_ble_eq_true rfl, Nat.le_of_ble_eq_true rfl⟩ rfl rfl ?_
      refine s_X9_asset hL hW hI hs g0 g1 (by omega) (by omega) ?_
      refine zv_goto C 56 dX9_balanceOf_29 rfl ?_
      refine zv_ireturn C dX9_balanceOf_56 rfl rfl rfl rfl ?_
      have q := hp A1 hI.1
      unfold mBal at q
      first | (rw [if_pos (by omega)] at q; exact q) | (rw [if_neg (by omega), if_pos (by omega)] at q; exact q) | (rw [if_neg (by omega), if_neg (by omega), if_pos (by omega)] at q; exact q) | (rw [if_neg (by omega), if_neg (by omega), if_neg (by omega)] at q; exact q)
  · refine zv_aload_n C dX9_balanceOf_11 rfl rfl ?_
    refine zv_iload_n C dX9_balanceOf_12 rfl ?_
    refine zv_cVi0_1 C dX9_balanceOf_13 k_X9_liability l_X9_223 hL.1 rfl ⟨Nat.le_of_ble_eq_true rfl, Nat.le_of_ble_eq_true rfl⟩ ⟨rfl, rfl⟩ ⟨Nat.le_of_ble_eq_true rfl, Nat.le_of_ble_eq_true rfl⟩ rfl rfl ?_
    refine s_X9_liability hL hW hI hs g0 g1 (by omega) (by omega) ?_
    refine zv_goto C 56 dX9_balanceOf_16 rfl ?_
    refine zv_ireturn C dX9_balanceOf_56 rfl rfl rfl rfl ?_
    have q := hp A1 hI.1
    unfold mBal at q
    first | (rw [if_pos (by omega)] at q; exact q) | (rw [if_neg (by omega), if_pos (by omega)] at q; exact q) | (rw [if_neg (by omega), if_neg (by omega), if_pos (by omega)] at q; exact q) | (rw [if_neg (by omega), if_neg (by omega), if_neg (by omega)] at q; exact q)
