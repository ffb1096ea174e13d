/-! BUCKETS by last years: from t to l -/
def zbk (L : Int → Int) (t l : Int) : Int := zS (fun i => L (t + i)) (l + 1 - t).toNat
theorem zbk_nil {L : Int → Int} {t l : Int} (h : l < t) : zbk L t l = 0 := by
  unfold zbk
  rw [show (l + 1 - t).toNat = 0 by omega]
  rfl
theorem zbk_tl {L : Int → Int} {t l : Int} (h : t ≤ l) : zbk L t l = zbk L t (l - 1) + L l := by
  unfold zbk
  rw [show (l + 1 - t).toNat = (l - 1 + 1 - t).toNat + 1 by omega]
  refine zS_t ?_
  congr 1
  omega
theorem zbk_split {L : Int → Int} {t m : Int} (h : t ≤ m + 1) : ∀ d : Nat, zbk L t (m + d) = zbk L t m + zbk L (m + 1) (m + d)
  | 0 => by
    rw [show m + ((0 : Nat) : Int) = m by omega, zbk_nil (show m < m + 1 by omega)]
    omega
  | d + 1 => by
    have ih := zbk_split (L := L) h d
    rw [zbk_tl (show t ≤ m + ((d + 1 : Nat) : Int) by omega), zbk_tl (show m + 1 ≤ m + ((d + 1 : Nat) : Int) by omega), show m + ((d + 1 : Nat) : Int) - 1 = m + d by omega, ih]
    omega
theorem zbk_hd {L : Int → Int} {t l : Int} (h : t ≤ l) : zbk L t l = L t + zbk L (t + 1) l := by
  have s := zbk_split (L := L) (t := t) (m := t) (by omega) (l - t).toNat
  rw [show t + ((l - t).toNat : Int) = l by omega] at s
  rw [s, zbk_tl (Int.le_refl t), zbk_nil (show t - 1 < t by omega)]
  omega
theorem zbk_congr {L L' : Int → Int} {t l : Int} (h : ∀ j : Int, t ≤ j → j ≤ l → L' j = L j) : zbk L' t l = zbk L t l := by
  refine zS_congr _ (fun i a b => h _ (by omega) (by omega))
theorem zbk_nn {L : Int → Int} {t l : Int} (h : ∀ j : Int, t ≤ j → j ≤ l → 0 ≤ L j) : 0 ≤ zbk L t l := zS_nn _ (fun i a b => h _ (by omega) (by omega))
theorem zbk_ub {L : Int → Int} {t l c : Int} (hc : 0 ≤ c) (ht : 0 ≤ t) (hl : l ≤ 59) (h : ∀ j : Int, t ≤ j → j ≤ l → L j ≤ c) : zbk L t l ≤ c * 60 := by
  have q := zS_ub (f := fun i => L (t + i)) (c := c) (l + 1 - t).toNat (fun i a b => h _ (by omega) (by omega))
  have w : c * ((l + 1 - t).toNat : Int) ≤ c * 60 := Int.mul_le_mul_of_nonneg_left (by omega) hc
  unfold zbk
  omega
theorem zbk_upd {L : Int → Int} {t l b x : Int} : zbk (zu1 L b x) t l = zbk L t l + (if t ≤ b ∧ b ≤ l then x - L b else 0) := by
  by_cases c : t ≤ b ∧ b ≤ l
  · have e := zS_upd (f := fun i => L (t + i)) (g := fun i => zu1 L b x (t + i)) (l + 1 - t).toNat (b - t) (by omega) (by omega) (fun i _ _ hi => zu1_ne (by omega))
    rw [if_pos c]
    unfold zbk
    rw [e, show t + (b - t) = b by omega, zu1_eq]
  · rw [if_neg c, Int.add_zero]
    exact zbk_congr (fun j a d => zu1_ne (by omega))
/-- taking from the earliest: the buckets ahead of k are done -/
def zTk (L L' : Int → Int) (t sum k r : Int) : Prop := (∀ j : Int, j < t ∨ k ≤ j → L' j = L j) ∧ (∀ l : Int, t ≤ l → l < k → zbk L' t l = max 0 (zbk L t l - sum)) ∧ r = max 0 (sum - zbk L t (k - 1)) ∧ ∀ j : Int, t ≤ j → j ≤ 59 → 0 ≤ L' j ∧ L' j ≤ L j
theorem zTk_0 {L : Int → Int} {t sum : Int} (hs : 0 ≤ sum) (hL : ∀ j : Int, t ≤ j → j ≤ 59 → 0 ≤ L j) : zTk L L t sum t sum := by
  refine ⟨fun _ _ => rfl, fun l a b => by omega, ?_, fun j a b => ⟨hL j a b, Int.le_refl _⟩⟩
  rw [zbk_nil (by omega)]
  omega
theorem zTk_step {L L' : Int → Int} {t sum k r : Int} (hs : 0 ≤ sum) (h : zTk L L' t sum k r) (hL : ∀ j : Int, t ≤ j → j ≤ 59 → 0 ≤ L j) (hk : t ≤ k) (hk2 : k ≤ 59) : zTk L (zu1 L' k (L' k - min r (L' k))) t sum (k + 1) (r - min r (L' k)) := by
  obtain ⟨h1, h2, h3, h4⟩ := h
  have ek : L' k = L k := h1 k (by omega)
  have hk0 := hL k hk hk2
  have z0 : 0 ≤ zbk L t (k - 1) := zbk_nn (fun j a b => hL j a (by omega))
  have zl := zbk_tl (L := L) hk
  have e0 : zbk L' t (k - 1) = max 0 (zbk L t (k - 1) - sum) := by
    by_cases c : t ≤ k - 1
    · exact h2 (k - 1) c (by omega)
    · rw [zbk_nil (by omega), zbk_nil (by omega)]
      omega
  rw [ek]
  refine ⟨fun j hj => ?_, fun l a b => ?_, ?_, fun j a b => ?_⟩
  · rw [zu1_ne (by omega)]; exact h1 j (by omega)
  · rw [zbk_upd]
    by_cases c : l = k
    · subst c
      rw [if_pos ⟨by omega, by omega⟩, zbk_tl (L := L') hk, e0, ek]
      omega
    · rw [if_neg (by omega), Int.add_zero]
      exact h2 l a (by omega)
  · rw [show k + 1 - 1 = k by omega]
    omega
  · have q := h4 j a b
    by_cases c : j = k
    · subst c
      rw [zu1_eq]
      omega
    · rw [zu1_ne c]; exact q
theorem zTk_end {L L' : Int → Int} {t sum k r : Int} (hs : 0 ≤ sum) (h : zTk L L' t sum k r) (hk : t ≤ k) (hr : r ≤ 0 ∨ k = 60) (hL : ∀ j : Int, t ≤ j → j ≤ 59 → 0 ≤ L j) (l : Int) (h0 : t ≤ l) (h9 : l ≤ 59) : zbk L' t l = max 0 (zbk L t l - sum) := by
  obtain ⟨h1, h2, h3, h4⟩ := h
  by_cases c : l < k
  · exact h2 l h0 c
  · have s1 := zbk_split (L := L') (t := t) (m := k - 1) (by omega) (l - (k - 1)).toNat
    have s2 := zbk_split (L := L) (t := t) (m := k - 1) (by omega) (l - (k - 1)).toNat
    rw [show k - 1 + ((l - (k - 1)).toNat : Int) = l by omega] at s1 s2
    rw [zbk_congr (L := L) (L' := L') (t := k - 1 + 1) (l := l) (fun j a b => h1 j (by omega))] at s1
    have z9 : 0 ≤ zbk L (k - 1 + 1) l := zbk_nn (fun j a b => hL j (by omega) (by omega))
    have e0 : zbk L' t (k - 1) = max 0 (zbk L t (k - 1) - sum) := by
      by_cases c : t ≤ k - 1
      · exact h2 (k - 1) c (by omega)
      · rw [zbk_nil (by omega), zbk_nil (by omega)]
        omega
    omega
/-- the cover's layout -/
def cLay (T : zTt) (FR : zFR) : Prop := T 5 = (1, 3) ∧ T 6 = (2, 40) ∧ T 7 = (2, 40) ∧ T 8 = (2, 40) ∧ T 9 = (2, 40) ∧ T 10 = (2, 40) ∧ T 11 = (2, 40) ∧ T 12 = (2, 40) ∧ T 13 = (2, 60) ∧ FR 5 0 = some 6 ∧ FR 5 1 = some 7 ∧ FR 5 2 = some 8 ∧ FR 5 3 = some 9 ∧ FR 5 4 = some 10 ∧ FR 5 5 = some 11 ∧ FR 5 6 = some 12 ∧ FR 5 7 = some 13
/-- the parts of an item that are to come, together: what is open -/
theorem zUp_last {it : Int → Int → Int} {i : Int} (h : wI it i) : zUp it i 39 = it i 2 := by
  obtain ⟨-, -, -, h3, h4, h5⟩ := h
  unfold zUp
  rw [if_neg (by omega), if_pos (by omega)]
theorem zUp_tel {it : Int → Int → Int} {i y : Int} : ∀ n : Nat, zS (fun k => zPart it i (y + 1 + k)) n = zUp it i (y + n) - zUp it i y
  | 0 => by
    rw [show y + ((0 : Nat) : Int) = y by omega]
    show (0 : Int) = _
    omega
  | n + 1 => by
    rw [zS_t rfl, zUp_tel n]
    unfold zPart
    rw [show y + 1 + (n : Int) - 1 = y + n by omega, show y + 1 + (n : Int) = y + ((n + 1 : Nat) : Int) by omega]
    omega
theorem mDed_sum {N : Int → Int} {nI nL : Nat} (hW : mW N nI nL) (o : Int) : zS (fun k => mDed N nI o (N 0 + 1 + k)) (39 - N 0).toNat = mUa N nI o := by
  have w0 := hW.1
  unfold mDed mUa zPs
  rw [zS_comm]
  refine zS_congr nI (fun i a b => ?_)
  have wi := hW.2.2.2.2.2.2.2.2.1 i a b
  by_cases c : mIt N i 0 = o ∧ mIt N i 1 = 0
  · rw [if_pos c, zS_congr (g := fun k => zPart (mIt N) i (N 0 + 1 + k)) _ (fun k _ _ => if_pos c), zUp_tel, show N 0 + ((39 - N 0).toNat : Int) = 39 by omega, zUp_last wi]
    rfl
  · rw [if_neg c, zS_congr (g := fun _ => 0) _ (fun k _ _ => if_neg c), zS_zero]
/-- the buckets at the start -/
theorem zL0_b {N : Int → Int} {nI nL : Nat} (hW : mW N nI nL) {o t : Int} {L : Int → Int} (hL : ∀ j : Int, t ≤ j → j ≤ 59 → L j = zS (fun l => if N (395 + 4 * l + 0) = o ∧ N (395 + 4 * l + 2) = j then N (395 + 4 * l + 3) else 0) nL) : ∀ d : Nat, t + d ≤ 60 → zbk L t (t + d - 1) = zL0 (mLo N) nL o t (t + d - 1)
  | 0, _ => by
    rw [zbk_nil (by omega)]
    unfold zL0
    rw [zS_congr (g := fun _ => 0) nL (fun i _ _ => if_neg (by omega)), zS_zero]
  | d + 1, hd => by
    have ih := zL0_b hW hL d (by omega)
    rw [zbk_tl (by omega), show t + ((d + 1 : Nat) : Int) - 1 - 1 = t + d - 1 by omega, ih, hL _ (by omega) (by omega)]
    unfold zL0
    rw [← zS_add]
    refine zS_congr nL (fun i _ _ => ?_)
    show (if N (395 + 4 * i + 0) = o ∧ t ≤ N (395 + 4 * i + 2) ∧ N (395 + 4 * i + 2) ≤ t + d - 1 then N (395 + 4 * i + 3) else 0) + (if N (395 + 4 * i + 0) = o ∧ N (395 + 4 * i + 2) = t + ((d + 1 : Nat) : Int) - 1 then N (395 + 4 * i + 3) else 0) = if N (395 + 4 * i + 0) = o ∧ t ≤ N (395 + 4 * i + 2) ∧ N (395 + 4 * i + 2) ≤ t + ((d + 1 : Nat) : Int) - 1 then N (395 + 4 * i + 3) else 0
    by_cases c1 : N (395 + 4 * i + 0) = o ∧ t ≤ N (395 + 4 * i + 2) ∧ N (395 + 4 * i + 2) ≤ t + d - 1
    · rw [if_pos c1, if_neg (by omega), if_pos (by omega)]; omega
    · rw [if_neg c1]
      by_cases c2 : N (395 + 4 * i + 0) = o ∧ N (395 + 4 * i + 2) = t + ((d + 1 : Nat) : Int) - 1
      · rw [if_pos c2, if_pos (by omega)]; omega
      · rw [if_neg c2, if_neg (by omega)]; omega
/-- a year is covered: the buckets behind it -/
theorem zbk_year {L L1 : Int → Int} {ded cov P0 : Int → Int} {c t0 : Int} {s : Nat} (hP : ∀ l : Int, t0 + s ≤ l → l ≤ 59 → zbk L (t0 + s) l = zPf ded cov c P0 t0 s l) (hc : 0 ≤ c) (ht : t0 + s + c ≤ 59)
    (h1 : ∀ l : Int, t0 + s ≤ l → l ≤ 59 → zbk L1 (t0 + s) l = max 0 (zbk L (t0 + s) l - min (zPf ded cov c P0 t0 s 59) (cov (t0 + s) - min (ded (t0 + s)) (cov (t0 + s))))) (hm : ∀ l : Int, t0 + s ≤ l → l ≤ 59 → 0 ≤ zPf ded cov c P0 t0 s l ∧ zPf ded cov c P0 t0 s l ≤ zPf ded cov c P0 t0 s 59) :
    (∀ l : Int, t0 + s ≤ l → l ≤ 59 → zbk (zu1 L1 (t0 + s + c) (L1 (t0 + s + c) + (ded (t0 + s) - min (ded (t0 + s)) (cov (t0 + s))))) (t0 + s) l = zP2 ded cov c (zPf ded cov c P0 t0 s) (t0 + s) l) := by
  intro l a b
  rw [zbk_upd, h1 l a b, hP l a b]
  have q := hm l a b
  unfold zP2
  by_cases g : t0 + s + c ≤ l
  · rw [if_pos ⟨by omega, g⟩, if_pos g]; omega
  · rw [if_neg (fun z => g z.2), if_neg g]; omega
