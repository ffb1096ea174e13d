/-! LINES of a text -/
def kws : List (List Int) := [[99, 97, 114, 114, 121], [111, 102, 102, 105, 99, 101], [114, 97, 116, 101], [112, 114, 111, 102, 105, 116], [116, 97, 120, 97, 98, 108, 101], [100, 101, 100, 117, 99, 116, 105, 98, 108, 101], [108, 111, 115, 115]]
def kln (j : Nat) : Nat := (kws.getD j []).length
def kch (j : Nat) (i : Int) : Int := (kws.getD j []).getD i.toNat 0
def zKw (b : Int → Int) (n p : Int) (j : Nat) : Prop := tK b n p = 2 ∧ tR b n p = kln j ∧ ∀ i : Nat, i < kln j → b (tP b n p + i) = kch j i
theorem zwd_pos {b : Int → Int} {q : Int} : ∀ k : Nat, (∀ i : Nat, i < k → 97 ≤ b (q + i) ∧ b (q + i) ≤ 122) → 0 ≤ zwd b q k
  | 0, _ => Int.le_refl _
  | k + 1, h => by
    have ih := zwd_pos k (fun i hi => h i (by omega))
    have hk := h k (by omega)
    show 0 ≤ 27 * zwd b q k + b (q + k) - 96
    omega
theorem zwd_inj {b c : Int → Int} {q r : Int} : ∀ k k' : Nat, (∀ i : Nat, i < k → 97 ≤ b (q + i) ∧ b (q + i) ≤ 122) → (∀ i : Nat, i < k' → 97 ≤ c (r + i) ∧ c (r + i) ≤ 122) → zwd b q k = zwd c r k' → k = k' ∧ ∀ i : Nat, i < k → b (q + i) = c (r + i)
  | 0, 0, _, _, _ => ⟨rfl, fun i hi => by omega⟩
  | 0, k' + 1, _, h', e => by
    have ih := zwd_pos k' (fun i hi => h' i (by omega))
    have hk := h' k' (by omega)
    have e2 : (0 : Int) = 27 * zwd c r k' + c (r + k') - 96 := e
    omega
  | k + 1, 0, h, _, e => by
    have ih := zwd_pos k (fun i hi => h i (by omega))
    have hk := h k (by omega)
    have e2 : 27 * zwd b q k + b (q + k) - 96 = (0 : Int) := e
    omega
  | k + 1, k' + 1, h, h', e => by
    have hk := h k (by omega)
    have hk' := h' k' (by omega)
    have e2 : 27 * zwd b q k + b (q + k) - 96 = 27 * zwd c r k' + c (r + k') - 96 := e
    have e3 : zwd b q k = zwd c r k' := by omega
    have ih := zwd_inj k k' (fun i hi => h i (by omega)) (fun i hi => h' i (by omega)) e3
    have e4 : b (q + k) = c (r + k') := by omega
    refine ⟨by omega, fun i hi => ?_⟩
    by_cases c1 : i = k
    · subst c1
      rw [e4, ih.1]
    · exact ih.2 i (by omega)
theorem zwd_eq {b c : Int → Int} {q r : Int} : ∀ k : Nat, (∀ i : Nat, i < k → b (q + i) = c (r + i)) → zwd b q k = zwd c r k
  | 0, _ => rfl
  | k + 1, h => by
    show 27 * zwd b q k + b (q + k) - 96 = 27 * zwd c r k + c (r + k) - 96
    rw [zwd_eq k (fun i hi => h i (by omega)), h k (by omega)]
theorem zrn_in {b : Int → Int} {n : Int} : ∀ (d : Nat) (p i : Int), p ≤ i → i < zrn b n d p → (97 ≤ b i ∧ b i ≤ 122) ∨ (48 ≤ b i ∧ b i ≤ 57)
  | 0, p, i, h0, h1 => by
    have h2 : i < p := h1
    omega
  | d + 1, p, i, h0, h1 => by
    have h2 : i < if p < n ∧ ((97 ≤ b p ∧ b p ≤ 122) ∨ (48 ≤ b p ∧ b p ≤ 57)) then zrn b n d (p + 1) else p := h1
    split at h2
    · rename_i g
      by_cases e : i = p
      · rw [e]; exact g.2
      · exact zrn_in d (p + 1) i (by omega) h2
    · omega
theorem tK_word {b : Int → Int} {n p : Int} (h : tK b n p = 2) : 0 < tR b n p ∧ tP b n p = tF b n p ∧ tN b n p = tP b n p + tR b n p ∧ ∀ i : Nat, i < tR b n p → 97 ≤ b (tP b n p + i) ∧ b (tP b n p + i) ≤ 122 := by
  have z := tE_b (b := b) (n := n) (n - tF b n p).toNat (tF b n p)
  have hN : tN b n p = tE b n (tF b n p) := if_neg (by omega)
  have eR : (tR b n p : Int) = tE b n (tF b n p) - tF b n p := by
    unfold tR
    unfold tE
    omega
  have h9 := h
  unfold tK at h9
  by_cases c1 : 600 < n ∧ 600 ≤ tF b n p
  · rw [if_pos c1] at h9; omega
  · have eP : tP b n p = tF b n p := if_neg c1
    rw [if_neg c1] at h9
    by_cases c2 : n ≤ tF b n p
    · rw [if_pos c2] at h9; omega
    · rw [if_neg c2] at h9
      by_cases c3 : b (tF b n p) = 59
      · rw [if_pos c3] at h9; omega
      · rw [if_neg c3] at h9
        by_cases c4 : 0 < tR b n p ∧ zdg b (tF b n p) (tR b n p) = 0
        · refine ⟨c4.1, eP, by omega, fun i hi => ?_⟩
          have a := zrn_in (b := b) (n := n) (n - tF b n p).toNat (tF b n p) (tF b n p + i) (by omega) (by unfold tE at eR; omega)
          have t := zS_term (f := fun i => if 48 ≤ b (tF b n p + i) ∧ b (tF b n p + i) ≤ 57 then (1 : Int) else 0) (tR b n p) (fun i _ _ => by split <;> omega) i (by omega) (by omega)
          have c5 := c4.2
          unfold zdg at c5
          rw [eP]
          by_cases c6 : 48 ≤ b (tF b n p + i) ∧ b (tF b n p + i) ≤ 57
          · rw [if_pos c6] at t; omega
          · omega
        · rw [if_neg c4] at h9
          split at h9 <;> omega
theorem kch_b : ∀ j : Nat, j < 7 → kln j ≤ 10 ∧ ∀ i : Nat, i < kln j → 97 ≤ kch j (0 + (i : Int)) ∧ kch j (0 + (i : Int)) ≤ 122 := by decide
theorem zKw_iff {b : Int → Int} {n p : Int} {j : Nat} (hj : j < 7) (h : tK b n p = 2) : zwd b (tP b n p) (min (tR b n p) 11) = zwd (kch j) 0 (kln j) ↔ zKw b n p j := by
  obtain ⟨k0, k1, k2, k3⟩ := tK_word h
  have kb := kch_b j hj
  constructor
  · intro e
    have q := zwd_inj _ _ (fun i hi => k3 i (by omega)) kb.2 e
    refine ⟨h, by omega, fun i hi => ?_⟩
    have q2 := q.2 i (by omega)
    rw [q2]
    congr 1
    omega
  · intro z
    have hr := z.2.1
    rw [show min (tR b n p) 11 = kln j by omega]
    exact zwd_eq _ (fun i hi => by rw [z.2.2 i hi]; congr 1; omega)
theorem zKw_no {b : Int → Int} {n p : Int} {j : Nat} (h : tK b n p ≠ 2) : ¬ zKw b n p j := fun z => h z.1
theorem kws_ne : ∀ j : Nat, j < 7 → ∀ j' : Nat, j' < 7 → j ≠ j' → kln j ≠ kln j' ∨ kch j 0 ≠ kch j' 0 := by decide
theorem kln_pos : ∀ j : Nat, j < 7 → 0 < kln j := by decide
theorem zKw_uni {b : Int → Int} {n p : Int} {j j' : Nat} (hj : j < 7) (hj' : j' < 7) (h : zKw b n p j) (h' : zKw b n p j') : j = j' := by
  by_cases e : j = j'
  · exact e
  · have z1 := h.2.2 0 (kln_pos j hj)
    have z2 := h'.2.2 0 (kln_pos j' hj')
    have q := kws_ne j hj j' hj' e
    rw [z1] at z2
    rcases q with q | q
    · exact absurd (h.2.1.symm.trans h'.2.1) q
    · exact absurd z2 q
/-! numbers that follow the word -/
def tI (b : Int → Int) (n p : Int) : Nat → Int
  | 0 => p
  | k + 1 => tN b n (tI b n p k)
def sNum (b : Int → Int) (n p lo hi : Int) : Prop := tK b n p = 3 ∧ lo ≤ tV b n p ∧ tV b n p ≤ hi
def sln (j : Nat) : Nat := if j < 2 then 1 else if j = 4 ∨ j = 5 then 4 else 3
def slo (j : Nat) (V : Nat → Int) (k : Nat) : Int := if j = 3 then (if k = 2 then 1 else 0) else if j = 4 ∨ j = 5 then (if k = 0 then 0 else if k = 3 then V 2 else 1) else if j = 6 then (if k = 0 then 0 else 1) else 0
def shi (j : Nat) (f : Int) (k : Nat) : Int := if j = 0 then 20 else if j = 1 then 900 else if k = 0 then f - 1 else if j = 2 then (if k = 1 then 39 else 900) else if j = 3 then (if k = 1 then 39 else 99999) else if k = 1 then 99999 else 39
def sV (b : Int → Int) (n p1 : Int) (k : Nat) : Int := tV b n (tI b n p1 k)
/-- the first k numbers are as told -/
def sSt (b : Int → Int) (n p1 f : Int) (j k : Nat) : Prop := ∀ i : Nat, i < k → sNum b n (tI b n p1 i) (slo j (sV b n p1) i) (shi j f i)
def sBd (b : Int → Int) (n p1 f : Int) (j : Nat) (flt pl : Int) : Prop := (∃ k : Nat, k < sln j ∧ sSt b n p1 f j k ∧ ¬ sNum b n (tI b n p1 k) (slo j (sV b n p1) k) (shi j f k) ∧ flt = (if tK b n (tI b n p1 k) = 3 then 2 else 1) ∧ pl = tP b n (tI b n p1 k)) ∨ (sSt b n p1 f j (sln j) ∧ tK b n (tI b n p1 (sln j)) ≠ 4 ∧ flt = 1 ∧ pl = tP b n (tI b n p1 (sln j)))
def sGd (b : Int → Int) (n p1 f : Int) (j : Nat) : Prop := sSt b n p1 f j (sln j) ∧ tK b n (tI b n p1 (sln j)) = 4
theorem sSt_0 {b : Int → Int} {n p1 f : Int} {j : Nat} : sSt b n p1 f j 0 := fun i hi => by omega
theorem sSt_s {b : Int → Int} {n p1 f : Int} {j k : Nat} (h : sSt b n p1 f j k) (g : sNum b n (tI b n p1 k) (slo j (sV b n p1) k) (shi j f k)) : sSt b n p1 f j (k + 1) := fun i hi => by
  by_cases e : i = k
  · rw [e]; exact g
  · exact h i (by omega)
def nLn (j : Nat) (N : Int → Int) (V : Nat → Int) : Int → Int :=
  if j = 0 then zu1 N 1 (V 0) else if j = 1 then zu1 (zfl N (5 + 40 * N 2 + 0) (5 + 40 * N 2 + 40) (V 0)) 2 (N 2 + 1) else if j = 2 then zfl N (5 + 40 * V 0 + V 1) (5 + 40 * V 0 + 40) (V 2) else if j = 3 then zu1 N (125 + 40 * V 0 + V 1) (V 2)
  else if j = 6 then zu1 (zu1 (zu1 (zu1 (zu1 N (395 + 4 * N 4 + 0) (V 0)) (395 + 4 * N 4 + 1) (V 1)) (395 + 4 * N 4 + 2) (V 2)) (395 + 4 * N 4 + 3) (V 1)) 4 (N 4 + 1)
  else zu1 (zu1 (zu1 (zu1 (zu1 (zu1 N (245 + 5 * N 3 + 0) (V 0)) (245 + 5 * N 3 + 2) (V 1)) (245 + 5 * N 3 + 3) (V 2)) (245 + 5 * N 3 + 4) (V 3)) (245 + 5 * N 3 + 1) (if j = 4 then 1 else 0)) 3 (N 3 + 1)
def lOk (b : Int → Int) (n p : Int) (N : Int → Int) (L : Int) (j : Nat) : Prop := j < 7 ∧ zKw b n p j ∧ (if j = 0 then L = 0 else if j = 1 then L = 1 + N 2 else 2 ≤ L)
def lFull (N : Int → Int) (j : Nat) : Prop := (j = 1 ∧ N 2 = 3) ∨ ((j = 4 ∨ j = 5) ∧ N 3 = 16) ∨ (j = 6 ∧ N 4 = 10)
def lFault (b : Int → Int) (n p : Int) (N : Int → Int) (L flt pl : Int) : Prop := ((∀ j : Nat, ¬ lOk b n p N L j) ∧ ¬ (tK b n p = 1 ∧ 2 ≤ L) ∧ flt = 1 ∧ pl = tP b n p) ∨ ∃ j : Nat, lOk b n p N L j ∧ ((lFull N j ∧ flt = 3 ∧ pl = tP b n p) ∨ (¬ lFull N j ∧ sBd b n (tN b n p) (N 2) j flt pl))
def lGood (b : Int → Int) (n p : Int) (N : Int → Int) (L : Int) (N' : Int → Int) (p' : Int) : Prop := ∃ j : Nat, lOk b n p N L j ∧ ¬ lFull N j ∧ sGd b n (tN b n p) (N 2) j ∧ N' = nLn j N (sV b n (tN b n p)) ∧ p' = tN b n (tI b n (tN b n p) (sln j))
def tRun (b : Int → Int) (n : Int) (N0 : Int → Int) : Nat → (Int → Int) → Int → Prop
  | 0, N, p => N = N0 ∧ p = 0
  | L + 1, N', p' => ∃ N p, tRun b n N0 L N p ∧ lGood b n p N L N' p'
