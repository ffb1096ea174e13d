/-! THE YEARS THAT ARE COVERED, in the class -/
def cIv (A0 A : zAI) (F0 F : zFI) (ded cov : Int → Int) (c : Int) (P0 : Int → Int) (t0 : Int) (s : Nat) : Prop :=
  (∀ a, a < 7 ∨ a = 8 ∨ a = 12 ∨ 13 < a → A a = A0 a) ∧ (∀ o j, o ≠ 5 ∨ j < 8 → F o j = F0 o j) ∧ (∀ j : Int, t0 + s ≤ j → j ≤ 59 → 0 ≤ A 13 j) ∧ (∀ l : Int, t0 + s ≤ l → l ≤ 59 → zbk (A 13) (t0 + s) l = zPf ded cov c P0 t0 s l) ∧ F 5 8 = zPf ded cov c P0 t0 s 59 ∧
  (∀ r : Nat, r < s → A 7 (t0 + r) = cov (t0 + r) ∧ A 9 (t0 + r) = min (ded (t0 + r)) (cov (t0 + r)) ∧ A 10 (t0 + r) = min (ded (t0 + r)) (cov (t0 + r)) + zUL ded cov c P0 t0 r ∧ A 11 (t0 + r) = zBH ded cov c P0 t0 r) ∧ (∀ j : Int, j < t0 → A 10 j = A0 10 j) ∧
  F 5 9 = P0 59 + zS (fun i => ded (t0 + i) - (min (ded (t0 + i)) (cov (t0 + i)) + zUL ded cov c P0 t0 i.toNat)) s
/-- one year more -/
theorem cIv_step {A0 A : zAI} {F0 F : zFI} {ded cov P0 L1 : Int → Int} {c t0 : Int} {s : Nat} (h : cIv A0 A F0 F ded cov c P0 t0 s) (ht0 : 0 ≤ t0) (h39 : t0 + s ≤ 39) (hc0 : 0 ≤ c) (hc1 : c ≤ 20) (hm : zMo (zPf ded cov c P0 t0 s) (t0 + s)) (hd : min (ded (t0 + s)) (cov (t0 + s)) ≤ ded (t0 + s))
    (h1 : ∀ l : Int, t0 + s ≤ l → l ≤ 59 → zbk L1 (t0 + s) l = max 0 (zbk (A 13) (t0 + s) l - min (F 5 8) (cov (t0 + s) - min (ded (t0 + s)) (cov (t0 + s))))) (h2 : ∀ j : Int, t0 + s ≤ j → j ≤ 59 → 0 ≤ L1 j ∧ L1 j ≤ A 13 j) (hcv : 0 ≤ cov (t0 + s) - min (ded (t0 + s)) (cov (t0 + s)))
    {st un : Int} (hst : st = F 5 8 + (ded (t0 + s) - min (ded (t0 + s)) (cov (t0 + s)) - min (F 5 8) (cov (t0 + s) - min (ded (t0 + s)) (cov (t0 + s))) - zu1 L1 (t0 + s + c) (L1 (t0 + s + c) + (ded (t0 + s) - min (ded (t0 + s)) (cov (t0 + s)))) (t0 + s)))
    (hun : un = F 5 9 + (ded (t0 + s) - (min (ded (t0 + s)) (cov (t0 + s)) + min (F 5 8) (cov (t0 + s) - min (ded (t0 + s)) (cov (t0 + s))))))
    {A1 : zAI} {F1 : zFI} (r0 : ∀ a, a < 7 ∨ a = 8 ∨ a = 12 ∨ 13 < a → A1 a = A a) (rF : ∀ o j, o ≠ 5 ∨ j < 8 → F1 o j = F o j) (r7 : A1 7 = zu1 (A 7) (t0 + s) (cov (t0 + s))) (r9 : A1 9 = zu1 (A 9) (t0 + s) (min (ded (t0 + s)) (cov (t0 + s)))) (r10 : A1 10 = zu1 (A 10) (t0 + s) (min (ded (t0 + s)) (cov (t0 + s)) + min (F 5 8) (cov (t0 + s) - min (ded (t0 + s)) (cov (t0 + s))))) (r11 : A1 11 = zu1 (A 11) (t0 + s) st) (r13 : A1 13 = zu1 L1 (t0 + s + c) (L1 (t0 + s + c) + (ded (t0 + s) - min (ded (t0 + s)) (cov (t0 + s))))) (rs : F1 5 8 = st) (ru : F1 5 9 = un) : cIv A0 A1 F0 F1 ded cov c P0 t0 (s + 1) := by
  obtain ⟨i1, i2, i3, i4, i5, i6, i7, i8⟩ := h
  have e1 : t0 + ((s + 1 : Nat) : Int) = t0 + s + 1 := by omega
  rw [i5] at h1 hst hun r10
  have key := zbk_year (L := A 13) (L1 := L1) i4 hc0 (by omega) h1 (fun l a b => ⟨hm.1 l a, hm.2 l 59 a b⟩)
  rw [← r13] at key
  have k0 := key (t0 + s) (by omega) (by omega)
  rw [zbk_tl (Int.le_refl _), zbk_nil (by omega), Int.zero_add] at k0
  have k9 := key 59 (by omega) (by omega)
  have hs2 : st = zP2 ded cov c (zPf ded cov c P0 t0 s) (t0 + s) 59 - zP2 ded cov c (zPf ded cov c P0 t0 s) (t0 + s) (t0 + s) := by
    rw [hst, ← r13, k0]
    have h59 := hm.1 59 (by omega)
    have e : zP2 ded cov c (zPf ded cov c P0 t0 s) (t0 + s) 59 = zPf ded cov c P0 t0 s 59 + (ded (t0 + s) - min (ded (t0 + s)) (cov (t0 + s)) - min (zPf ded cov c P0 t0 s 59) (cov (t0 + s) - min (ded (t0 + s)) (cov (t0 + s)))) := by
      unfold zP2
      rw [if_pos (by omega)]
      generalize min (ded (t0 + s)) (cov (t0 + s)) = mm at *
      omega
    rw [e]
    omega
  have eU : min (zPf ded cov c P0 t0 s 59) (cov (t0 + s) - min (ded (t0 + s)) (cov (t0 + s))) = zUL ded cov c P0 t0 s := by unfold zUL; exact Int.min_comm _ _
  rw [eU] at r10 hun
  refine ⟨fun a ha => (r0 a ha).trans (i1 a ha), fun o j ha => (rF o j ha).trans (i2 o j ha), fun j a b => ?_, fun l a b => ?_, ?_, fun r hr => ?_, fun j hj => ?_, ?_⟩
  · rw [r13]
    have q := h2 j (by omega) b
    by_cases e : j = t0 + s + c
    · rw [e, zu1_eq]
      have q2 := h2 (t0 + s + c) (by omega) (by omega)
      omega
    · rw [zu1_ne e]; exact q.1
  · rw [e1] at a ⊢
    have k := key l (by omega) b
    rw [zbk_hd (by omega), k0] at k
    show _ = zP2 ded cov c (zPf ded cov c P0 t0 s) (t0 + s) l - zP2 ded cov c (zPf ded cov c P0 t0 s) (t0 + s) (t0 + s)
    omega
  · rw [rs, hs2]
    rfl
  · by_cases e : r = s
    · subst e
      rw [r7, r9, r10, r11, zu1_eq, zu1_eq, zu1_eq, zu1_eq]
      exact ⟨rfl, rfl, rfl, hs2⟩
    · rw [r7, r9, r10, r11, zu1_ne (by omega), zu1_ne (by omega), zu1_ne (by omega), zu1_ne (by omega)]
      exact i6 r (by omega)
  · rw [r10, zu1_ne (by omega)]
    exact i7 j hj
  · rw [ru, hun, i8, zS_t rfl, Int.toNat_natCast]
    omega
