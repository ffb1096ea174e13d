set_option maxRecDepth 20000 in
/-- from the law's first instruction, with nothing of ours there yet -/
theorem law_start {nm : String} {G : zG} (C : zCx (M_law nm) zPF G) {b L : Nat} {xs : Nat → Int32} (S : zScr b L xs G) (E : zExs G) (Z : zLw b G) (iL : L ≤ 3072) : zV G 0 [some (zA 99), none, none, none, none, none, none] [] (fun _ => (0, 0)) (fun _ _ => none) (fun _ _ => none) (fun _ _ => 0) (fun _ _ => 0) 0 0 := by
  have hzb : 124 < zb := by decide
  refine zv_new C 0 dL_law_0 zcl_6 cl_L_8 in_X8 ini_1 (by decide) rfl rfl ⟨Nat.le_of_ble_eq_true rfl, Nat.le_of_ble_eq_true rfl⟩ ?_
  refine zv_dup C dL_law_3 rfl ?_
  refine zv_cIn C dL_law_4 k_X8_init l_L_18 ⟨Nat.le_of_ble_eq_true rfl, Nat.le_of_ble_eq_true rfl⟩ 27 2019 ⟨rfl, rfl⟩ ⟨Nat.le_of_ble_eq_true rfl, Nat.le_of_ble_eq_true rfl⟩ rfl rfl ?_
  refine s_X8_init zsT_eq (fun k a b => by rw [zsT_ne (by omega)]) (fun T1 FR1 AR1 FI1 AI1 w0 a1 a2 a3 a4 a5 a6 a7 a8 a9 a10 => ?_)
  have a0 : ∀ h, 29 < h → (T1 h).1 = 0 := fun h hh => by rw [(w0 h hh).1, zsT_ne (by omega)]
  refine zv_astore_1 C dL_law_7 rfl rfl rfl ?_
  refine zv_new C 100 dL_law_8 zcl_7 cl_L_19 in_X9 ini_7 (by decide) (a0 100 (by omega)) rfl ⟨Nat.le_of_ble_eq_true rfl, Nat.le_of_ble_eq_true rfl⟩ ?_
  refine zv_dup C dL_law_11 rfl ?_
  refine zv_cIn C dL_law_12 k_X9_init l_L_21 ⟨Nat.le_of_ble_eq_true rfl, Nat.le_of_ble_eq_true rfl⟩ 41 19804 ⟨rfl, rfl⟩ ⟨Nat.le_of_ble_eq_true rfl, Nat.le_of_ble_eq_true rfl⟩ rfl rfl ?_
  refine s_X9_init zsT_eq (fun k a b => by rw [zsT_ne (by omega)]; exact a0 k (by omega)) hzb (fun T2 FR2 AR2 FI2 AI2 gr c1 c2 c3 => ?_)
  have q90 : (T2 90).1 = 0 := by
    rw [(gr 90 (by omega)).1, zsT_ne (by omega)]
    exact a0 90 (by omega)
  refine zv_astore_2 C dL_law_15 rfl rfl rfl ?_
  refine zv_iconst C dL_law_16 rfl ?_
  refine zv_newJ (N := 1) C 90 dL_law_17 ac_long rfl (by decide) q90 rfl ⟨Nat.le_of_ble_eq_true rfl, Nat.le_of_ble_eq_true rfl⟩ ?_
  refine zv_astore_3 C dL_law_19 rfl rfl rfl ?_
  refine zv_iconst C dL_law_20 rfl ?_
  refine zv_istore_4 C dL_law_21 rfl rfl ?_
  exact law_loop C S E Z iL 513 0 none none _ _ _ _ _ 20 25 _ _ (lR_0 a0 a1 a2 a3 a4 a5 a6 a7 a8 a9 a10 gr c1 c2 c3) (by omega) (by omega) (by omega) (by omega) (by omega)
theorem zrg_0 : zrg (fun _ => (0, 0)) (fun _ _ => none) (fun _ _ => none) (fun _ _ => 0) (fun _ _ => 0) := ⟨fun k j h => (by cases h), fun k i h => absurd rfl h, fun k j b h => absurd rfl h, fun k i b h => absurd rfl h⟩
/-- from the entry, for every script of at most 3072 ints, the law comes to its end with true -/
theorem whole_start {p : Program} {e : Env} {s : State} {m : MethodId} {below : List Frame} {meth : Method} {c : Code} (l : Launch) (hflags : l.flags = flags0) {b L : Nat} {xs : Nat → Int32} (hL : L ≤ 3072) (C0 : lw_At p s m meth c b L xs) : W p l e room_1 s m #[Value.ref b] below meth c s.heap [] 0 0 (lw_Z below #[Value.ref b] s) (entryFrame m ([Value.ref b] : List Value).toArray 7) := by
  obtain ⟨hx, hb, hr, hml, hown, hts, hX, hbl, hlocks, hgv⟩ := id C0
  have htw : ∀ w ∈ zWs, w.before #[Value.ref b] s = true := fun w hw => hts w (List.mem_filter.mp hw).1
  obtain ⟨sa, h99, hSt⟩ := nSta hts hgv (A := fun q : Nat => s.heap.size ≤ q) (fun a ha => Nat.not_le.mpr ha)
  obtain ⟨D, cs, hK⟩ := nKn hts
  have hsa : (fun i => (fun k : Nat => sa (k - zb)) (zb + i)) = sa := funext fun i => congrArg sa (by omega)
  have C : zCx (M_law meth.name) zPF (p, l, e, room_1, s, m, #[Value.ref b], below, meth, c, lw_Z below #[Value.ref b] s, (fun q : Nat => s.heap.size ≤ q), D, cs, (fun _ => (0, 0)), fun k : Nat => sa (k - zb)) :=
    ⟨hx, hb, hml, hr, hlocks, rfl, hown, htw, hK, fun q h => h, rfl, fun t h => by
      obtain ⟨o, -, -, ⟨⟨r, T, FR, AR, FI, AI, ad, -, h, -⟩, -⟩, -⟩ := h
      exact h.elim, by rw [hsa]; exact hSt, hflags⟩
  have S : zScr b L xs (p, l, e, room_1, s, m, #[Value.ref b], below, meth, c, lw_Z below #[Value.ref b] s, (fun q : Nat => s.heap.size ≤ q), D, cs, (fun _ => (0, 0)), fun k : Nat => sa (k - zb)) :=
    ⟨hX, hbl, Nat.not_le.mpr hbl, (congrFun hsa 99).trans h99, hL⟩
  have K := law_start C S (nEx hts) ⟨rfl, rfl, fun q h => h⟩ hL
  have hl := lv_entry ([.ref b]) (n := 7) (Nat.le_of_ble_eq_true rfl)
  rw [lg_entry_eq]
  refine K (fun k : Nat => sa (k - zb)) s.heap [] _ ⟨[], List.nodup_nil, fun k => ⟨fun h => (nomatch h), fun h => absurd rfl h⟩, fun k q h => (by simp [zWd] at h), ⟨fun i j p q h => (by simp [zWd] at h), fun k q h => (by simp [zWd] at h)⟩, zrg_0, ⟨fun k h => absurd rfl h, fun _ => rfl⟩⟩ va_S.rf ?_ ?_ (fun v hv => nomatch hv)
  · rw [hml]
    have e9 : zlv (fun k : Nat => sa (k - zb)) 0 [some (zA 99), none, none, none, none, none, none] = lv_args 0 [.ref b] := by
      show [(0, Value.ref (sa (zb + 99 - zb)))] = [(0, Value.ref b)]
      rw [show zb + 99 - zb = 99 by omega, h99]
    rw [e9]
    exact hl
  · intro v hv
    simp only [List.mem_cons, List.not_mem_nil, or_false, Option.some.injEq, reduceCtorEq] at hv
    rw [hv]
    exact trivial
