theorem nSta {b : Nat} {s : State} (hts : ∀ w ∈ lw_tbl, w.before #[Value.ref b] s = true) (hgv : (Jvm.Cond.and given_1 narrow_1).before #[Value.ref b] s = true) {A : Nat → Prop} (hA : ∀ a : Nat, a < s.heap.size → ¬ A a) : ∃ sa : Nat → Nat, sa 99 = b ∧ zSta sa A s s.heap := by
  have g : ∀ {w : Cond} (i : Nat), nFl[i]? = some w → w.before #[Value.ref b] s = true := fun i h => nAt hgv i h
  have t : ∀ {w : Cond} (i : Nat), lw_tbl[i]? = some w → w.before #[Value.ref b] s = true := fun i h => nTb hts i h
  have iLn : (Cond.initialized "DeferredDesk$Line").before #[Value.ref b] s = true := t 79 (by decide +kernel)
  have iThr : (Cond.initialized "java/lang/Throwable").before #[Value.ref b] s = true := t 85 (by decide +kernel)
  -- the seven lines
  have h0 : ∀ i : Nat, ∃ q : Nat, i < 7 → (nSt i).eval #[Value.ref b] s none [] s = some (.ref q) ∧ va_O "DeferredDesk$Line" q A s s.heap := by
    intro i
    by_cases hi : i < 7
    · obtain ⟨a, c, cell, k, q1, q2, q3, q4, q5, q6, -⟩ := Cond.exactly_spec (g _ (nE_ex i hi))
      exact ⟨a, fun _ => ⟨q1, cell, q3, q5, by rw [q6]; exact q2, hA a (Array.getElem?_eq_some_iff.mp q3).1⟩⟩
    · exact ⟨0, fun h => absurd h hi⟩
  obtain ⟨ad, had⟩ := Classical.axiomOfChoice h0
  -- the texts
  have h1 : ∀ i : Nat, ∃ q : Nat × Nat, i < 13 → (nTx i).eval #[Value.ref b] s none [] s = some (.ref q.1) ∧ va_O "java/lang/String" q.1 A s s.heap ∧ va_OF "java/lang/String" "coder" "B" (.int 0) q.1 A s s.heap ∧ va_OF "java/lang/String" "value" "[B" (.ref q.2) q.1 A s s.heap ∧ va_T .byte q.2 (zByt.getD i []).length (fun j => .int ((zByt.getD i []).getD j 0)) A s s.heap := by
    intro i
    by_cases hi : i < 13
    · obtain ⟨a, c, cell, k, q1, q2, q3, q4, q5, q6, -⟩ := Cond.exactly_spec (g _ (nS_ex i hi))
      obtain ⟨u, hu, hT⟩ := va_Tof (f := fun j => .int ((zByt.getD i []).getD j 0)) (A := A) (nS_ln i hi) (g _ (nS_ar i hi)) (va_eqt (g _ (nS_le i hi))) (fun j hj => va_eqt (g _ (nS_el i hi j hj))) hA
      exact ⟨(a, u), fun _ => ⟨q1, ⟨cell, q3, q5, by rw [q6]; exact q2, hA a (Array.getElem?_eq_some_iff.mp q3).1⟩, vk_OFof q1 (va_eqt (g _ (nS_co i hi))) hA, vk_OFof q1 hu hA, hT⟩⟩
    · exact ⟨(0, 0), fun h => absurd h hi⟩
  obtain ⟨tx, htx⟩ := Classical.axiomOfChoice h1
  -- the arrays
  obtain ⟨t7, h7, hT7⟩ := va_Tof (f := fun j => .ref (ad j)) (A := A) (by decide) (g _ nA_ar) (va_eqt (g _ nA_le)) (fun j hj => va_eqv (g _ (nA_el j hj)) (had j hj).1) hA
  obtain ⟨t8, h8, hT8⟩ := va_Tof (f := fun j => .int (zSw.getD j 0)) (A := A) (by decide) (g _ nW_ar) (va_eqt (g _ nW_le)) (fun j hj => va_eqt (g _ (nW_el j hj))) hA
  -- the formatter
  obtain ⟨t9, h9⟩ : ∃ t9 : Nat, va_Z "jdk/internal/util/Preconditions" "SIOOBE_FORMATTER" "Ljava/util/function/BiFunction;" .null A s s.heap ∨ va_Z "jdk/internal/util/Preconditions" "SIOOBE_FORMATTER" "Ljava/util/function/BiFunction;" (.ref t9) A s s.heap := by
    rcases va_Zqof (A := A) (t (w := .laysStatic "jdk/internal/util/Preconditions" "SIOOBE_FORMATTER" "Ljava/util/function/BiFunction;") 375 (by decide +kernel)) (t 82 (by decide +kernel)) (g 17 (by decide +kernel)) hA with h | ⟨q, h⟩
    · exact ⟨0, Or.inl h⟩
    · exact ⟨q, Or.inr h⟩
  -- the texts of exceptions
  have h2 : ∀ n : Nat, ∃ q : Nat, ∀ x : String, (n, x) ∈ zXs → vk_R "DeferredDesk" n x q s := by
    intro n
    by_cases hn : ∃ x : String, (n, x) ∈ zXs
    · obtain ⟨x, hx⟩ := hn
      obtain ⟨a, c, cell, k, q1, -⟩ := Cond.exactly_spec (g _ (nX_ex _ hx))
      exact ⟨a, fun y hy => ⟨t _ (nX_sr _ hy), q1⟩⟩
    · exact ⟨0, fun x hx => absurd ⟨x, hx⟩ hn⟩
  obtain ⟨xe, hxe⟩ := Classical.axiomOfChoice h2
  have hex : ∃ sa : Nat → Nat, (∀ i, i < 7 → sa i = ad i) ∧ sa 7 = t7 ∧ sa 8 = t8 ∧ sa 9 = t9 ∧ (∀ j, j < 13 → sa (10 + j) = (tx j).1) ∧ (∀ j, j < 13 → sa (30 + j) = (tx j).2) ∧ sa 99 = b ∧ ∀ n, 100 ≤ n → sa n = xe n := by
    refine ⟨fun i => if i < 7 then ad i else if i = 7 then t7 else if i = 8 then t8 else if i = 9 then t9 else if i < 23 then (tx (i - 10)).1 else if i < 43 then (tx (i - 30)).2 else if i = 99 then b else xe i, fun i hi => ?_, rfl, rfl, rfl, fun j hj => ?_, fun j hj => ?_, rfl, fun n hn => ?_⟩
    · show (if i < 7 then _ else _) = _
      rw [if_pos hi]
    · show (if 10 + j < 7 then _ else _) = _
      rw [if_neg (by omega), if_neg (by omega), if_neg (by omega), if_neg (by omega), if_pos (by omega), show 10 + j - 10 = j by omega]
    · show (if 30 + j < 7 then _ else _) = _
      rw [if_neg (by omega), if_neg (by omega), if_neg (by omega), if_neg (by omega), if_neg (by omega), if_pos (by omega), show 30 + j - 30 = j by omega]
    · show (if n < 7 then _ else _) = _
      rw [if_neg (by omega), if_neg (by omega), if_neg (by omega), if_neg (by omega), if_neg (by omega), if_neg (by omega), if_neg (by omega)]
  obtain ⟨sa, e0, e7, e8, e9, eK, eV, e99, eX⟩ := hex
  have hL : ∀ i, i < 7 → va_Z "DeferredDesk$Line" (zNm.getD i "") "LDeferredDesk$Line;" (.ref (sa i)) A s s.heap := fun i hi => by
    rw [e0 i hi]
    exact va_Zref (t _ (nE_ls i hi)) iLn (had i hi).1 hA
  refine ⟨sa, e99, ⟨fun q hq => ?_, fun q hq => ?_, fun q hq => ?_, fun q hq => ?_, ?_, ?_, ?_⟩, fun q hq => ?_, fun i j hi hj e => ?_, ?_, ?_, ?_, ?_⟩
  · simp only [zZs, List.mem_cons, List.not_mem_nil, or_false] at hq
    rcases hq with rfl | rfl | rfl | rfl | rfl | rfl | rfl | rfl | rfl | rfl
    · exact hL 0 (by decide)
    · exact hL 1 (by decide)
    · exact hL 2 (by decide)
    · exact hL 3 (by decide)
    · exact hL 4 (by decide)
    · exact hL 5 (by decide)
    · exact hL 6 (by decide)
    · rw [e7]; exact va_Zref (C := "DeferredDesk$Line") (n := "ALL") (d := "[LDeferredDesk$Line;") (t 345 (by decide +kernel)) iLn h7 hA
    · rw [e8]; exact va_Zref (C := "DeferredDesk$1") (n := "$SwitchMap$DeferredDesk$Line") (d := "[I") (t 415 (by decide +kernel)) (t 84 (by decide +kernel)) h8 hA
    · exact va_Zof (t 359 (by decide +kernel)) (t 80 (by decide +kernel)) (va_eqt (g 16 (by decide +kernel))) hA
  · rcases List.mem_append.mp hq with hq | hq
    · obtain ⟨i, hi, hq⟩ := List.mem_flatMap.mp hq
      have hi := List.mem_range.mp hi
      simp only [List.mem_cons, List.not_mem_nil, or_false] at hq
      rcases hq with rfl | rfl | rfl
      · show va_OF "DeferredDesk$Line" "word" "Ljava/lang/String;" (.ref (sa (10 + i))) (sa i) A s s.heap
        rw [e0 i hi, eK i (by omega)]
        exact vk_OFof (had i hi).1 (va_eqv (g _ (nE_wo i hi)) (htx i (by omega)).1) hA
      · show va_OF "DeferredDesk$Line" "slots" "Ljava/lang/String;" (.ref (sa (10 + zSlo.getD i 0))) (sa i) A s s.heap
        rw [e0 i hi, eK _ (nSlo_lt i hi)]
        exact vk_OFof (had i hi).1 (va_eqv (g _ (nE_sl i hi)) (htx _ (nSlo_lt i hi)).1) hA
      · show va_OF "java/lang/Enum" "ordinal" "I" (.int (Int32.ofNat i)) (sa i) A s s.heap
        rw [e0 i hi]
        exact vk_OFof (had i hi).1 (va_eqt (g _ (nE_or i hi))) hA
    · obtain ⟨j, hj, hq⟩ := List.mem_flatMap.mp hq
      have hj := List.mem_range.mp hj
      simp only [List.mem_cons, List.not_mem_nil, or_false] at hq
      rcases hq with rfl | rfl
      · show va_OF "java/lang/String" "coder" "B" (.int 0) (sa (10 + j)) A s s.heap
        rw [eK j hj]; exact (htx j hj).2.2.1
      · show va_OF "java/lang/String" "value" "[B" (.ref (sa (30 + j))) (sa (10 + j)) A s s.heap
        rw [eK j hj, eV j hj]; exact (htx j hj).2.2.2.1
  · rcases List.mem_append.mp hq with hq | hq
    · simp only [List.mem_cons, List.not_mem_nil, or_false] at hq
      rcases hq with rfl | rfl
      · show va_T (.object "DeferredDesk$Line") (sa 7) 7 (fun j => Value.ref (sa j)) A s s.heap
        rw [e7]
        exact hT7.feq (fun j hj => congrArg Value.ref (e0 j hj).symm)
      · show va_T .int (sa 8) 7 (fun j => Value.int (zSw.getD j 0)) A s s.heap
        rw [e8]; exact hT8
    · obtain ⟨j, hj, rfl⟩ := List.mem_map.mp hq
      have hj := List.mem_range.mp hj
      show va_T .byte (sa (30 + j)) (zByt.getD j []).length (fun i => Value.int ((zByt.getD j []).getD i 0)) A s s.heap
      rw [eV j hj]; exact (htx j hj).2.2.2.2
  · rcases List.mem_append.mp hq with hq | hq
    · obtain ⟨i, hi, rfl⟩ := List.mem_map.mp hq
      have hi := List.mem_range.mp hi
      show va_O "DeferredDesk$Line" (sa i) A s s.heap
      rw [e0 i hi]; exact (had i hi).2
    · obtain ⟨j, hj, rfl⟩ := List.mem_map.mp hq
      have hj := List.mem_range.mp hj
      show va_O "java/lang/String" (sa (10 + j)) A s s.heap
      rw [eK j hj]; exact (htx j hj).2.1
  · exact vx_Zqof (t 764 (by decide +kernel)) iThr (g 46 (by decide +kernel)) hA
  · exact vx_Zqof (t 766 (by decide +kernel)) iThr (g 47 (by decide +kernel)) hA
  · unfold zSio
    rw [e9]; exact h9
  · obtain ⟨n, x⟩ := q
    show vk_R "DeferredDesk" n x (sa n) s
    have hn : 100 ≤ n := (show ∀ q ∈ zXs, 100 ≤ q.1 by decide) _ hq
    rw [eX n hn]; exact hxe n x hq
  · by_cases hij : i = j
    · exact hij
    · have e' : ad i = ad j := (e0 i hi).symm.trans (e.trans (e0 j hj))
      rcases nE_ne i hi j hj hij with h | h
      · exact absurd e' (va_neR (g _ h) (had i hi).1 (had j hj).1)
      · exact absurd e'.symm (va_neR (g _ h) (had j hj).1 (had i hi).1)
  · intro q hq
    simp only [zNms, List.mem_cons, List.not_mem_nil, or_false] at hq
    rcases hq with rfl | rfl | rfl | rfl | rfl | rfl | rfl | rfl
    · exact va_Nw.of rfl (t 102 (by decide +kernel))
    · exact va_Nw.of rfl (t 108 (by decide +kernel))
    · exact va_Nw.of rfl (t 124 (by decide +kernel))
    · exact va_Nw.of rfl (t 210 (by decide +kernel))
    · exact va_Nw.of rfl (t 255 (by decide +kernel))
    · exact va_Nw.of rfl (t 275 (by decide +kernel))
    · exact va_Nw.of rfl (t 623 (by decide +kernel))
    · exact va_Nw.of rfl (t 689 (by decide +kernel))
  · exact va_Nw.of rfl (t 344 (by decide +kernel))
  · exact t (w := .arrayOver (.object "DeferredDesk$Book")) 260 (by decide +kernel)
  · exact t (w := .arrayOver (.object "DeferredDesk$Closing")) 273 (by decide +kernel)
theorem nEx {b : Nat} {s : State} (hts : ∀ w ∈ lw_tbl, w.before #[Value.ref b] s = true) : zEx s := ⟨va_Nw.of rfl (nTb hts 739 (by decide +kernel)), va_Nw.of rfl (nTb hts 741 (by decide +kernel)), va_Nw.of rfl (nTb hts 743 (by decide +kernel)), va_Nw.of rfl (nTb hts 745 (by decide +kernel))⟩
theorem nKn {b : Nat} {s : State} (hts : ∀ w ∈ lw_tbl, w.before #[Value.ref b] s = true) : ∃ (D : va_G) (cs : zCs), va_K D vwCl (zTys cs) s := by
  have htw : ∀ w ∈ zWs, w.before #[Value.ref b] s = true := fun w hw => hts w (List.mem_filter.mp hw).1
  obtain ⟨c0, i0, k0⟩ := u_known (ws := zWs) htw zcl_0.2.1 (htw _ in_X1)
  obtain ⟨c1, i1, k1⟩ := u_known (ws := zWs) htw zcl_1.2.1 (htw _ in_X2)
  obtain ⟨c2, i2, k2⟩ := u_known (ws := zWs) htw zcl_2.2.1 (htw _ in_X3)
  obtain ⟨c3, i3, k3⟩ := u_known (ws := zWs) htw zcl_3.2.1 (htw _ in_X4)
  obtain ⟨c4, i4, k4⟩ := u_known (ws := zWs) htw zcl_4.2.1 (htw _ in_X6)
  obtain ⟨c5, i5, k5⟩ := u_known (ws := zWs) htw zcl_5.2.1 (htw _ in_X7)
  obtain ⟨c6, i6, k6⟩ := u_known (ws := zWs) htw zcl_6.2.1 (htw _ in_X8)
  obtain ⟨c7, i7, k7⟩ := u_known (ws := zWs) htw zcl_7.2.1 (htw _ in_X9)
  obtain ⟨a0, ka0, p0, f0, g0, m0⟩ := Cond.arrayClass_spec (htw _ ac_int)
  obtain ⟨a1, ka1, p1, f1, g1, m1⟩ := Cond.arrayClass_spec (htw _ ac_byte)
  obtain ⟨a2, ka2, p2, f2, g2, m2⟩ := Cond.arrayClass_spec (htw _ ac_long)
  obtain ⟨p3, a3, ka3, q3, -, g3, m3, f3⟩ := Cond.arrayOver_spec (show (Cond.arrayOver (.object "DeferredDesk$Book")).before #[Value.ref b] s = true from nTb hts 260 (by decide +kernel))
  obtain ⟨p4, a4, ka4, q4, -, g4, m4, f4⟩ := Cond.arrayOver_spec (show (Cond.arrayOver (.object "DeferredDesk$Closing")).before #[Value.ref b] s = true from nTb hts 273 (by decide +kernel))
  refine ⟨(fun k => match k with | 0 => c0 | 1 => c1 | 2 => c2 | 3 => c3 | 4 => c4 | 5 => c5 | 6 => c6 | _ => c7, fun k => match k with | 0 => i0 | 1 => i1 | 2 => i2 | 3 => i3 | 4 => i4 | 5 => i5 | 6 => i6 | _ => i7), (a0, a1, a2, a3, a4), fun k q hq => ?_, fun k q hq => ?_⟩
  · match k, hq with
    | 0, hq => obtain rfl := Option.some.inj hq; exact k0
    | 1, hq => obtain rfl := Option.some.inj hq; exact k1
    | 2, hq => obtain rfl := Option.some.inj hq; exact k2
    | 3, hq => obtain rfl := Option.some.inj hq; exact k3
    | 4, hq => obtain rfl := Option.some.inj hq; exact k4
    | 5, hq => obtain rfl := Option.some.inj hq; exact k5
    | 6, hq => obtain rfl := Option.some.inj hq; exact k6
    | 7, hq => obtain rfl := Option.some.inj hq; exact k7
    | k + 8, hq => exact absurd hq (by simp [vwCl])
  · match k, hq with
    | 0, hq => obtain rfl := Option.some.inj hq; exact ⟨fun n z => ⟨fun k h => (by cases h), ka0, g0, p0, m0⟩, f0⟩
    | 1, hq => obtain rfl := Option.some.inj hq; exact ⟨fun n z => ⟨fun k h => (by cases h), ka1, g1, p1, m1⟩, f1⟩
    | 2, hq => obtain rfl := Option.some.inj hq; exact ⟨fun n z => ⟨fun k h => (by cases h), ka2, g2, p2, m2⟩, f2⟩
    | 3, hq => obtain rfl := Option.some.inj hq; exact ⟨fun n z => ⟨fun k h => (by cases h), ka3, g3, p3, m3⟩, ka3, p3, g3, m3, q3, f3⟩
    | 4, hq => obtain rfl := Option.some.inj hq; exact ⟨fun n z => ⟨fun k h => (by cases h), ka4, g4, p4, m4⟩, ka4, p4, g4, m4, q4, f4⟩
    | k + 5, hq => exact absurd hq (by simp [zTys])
