def zdf : FieldType → Bool
  | .int => true
  | .long => true
  | .object _ => true
  | .array _ => true
  | _ => false
/-- a new cell: the others stay as they are -/
theorem zE_new {cs : zCs} {ad : Nat → Nat} {T : zTt} {FR : zFR} {AR : zAR} {FI : zFI} {AI : zAI} {h q : Nat} {t : Nat × Nat} (hrg : zrg T FR AR FI AI) (hh : (T h).1 = 0) {j : Nat} (hj : (T j).1 ≠ 0) : zE cs (va_up ad h q) (zsT T h t) (zzR FR h) (zzQ AR h) (zzF FI h) (zzA AI h) j = zE cs ad T FR AR FI AI j := by
  have hne : j ≠ h := fun e => hj (by rw [e]; exact hh)
  have hm : ∀ r : Option Nat, (∀ b, r = some b → (T b).1 ≠ 0) → r.map (va_up ad h q) = r.map ad := by
    intro r hr
    cases r with
    | none => rfl
    | some b =>
      have hb : b ≠ h := fun e => hr b rfl (by rw [e]; exact hh)
      simp [va_up, hb]
  have e1 : ∀ i, (FR j i).map (va_up ad h q) = (FR j i).map ad := fun i => hm _ (fun b hb => hrg.2.2.1 j i b hj hb)
  have e2 : ∀ i, (AR j i).map (va_up ad h q) = (AR j i).map ad := fun i => hm _ (fun b hb => hrg.2.2.2 j i b hj hb)
  have e3 : ∀ i ty, zfv (va_up ad h q) (zzR FR h) (zzF FI h) j i ty = zfv ad FR FI j i ty := by
    intro i ty
    cases ty <;> simp [zfv, zzR, zzF, hne, e1]
  simp only [zE, zsT, if_neg hne, e3, zzA, zzQ, e2]
theorem zrg_new {T : zTt} {FR : zFR} {AR : zAR} {FI : zFI} {AI : zAI} {h : Nat} {t : Nat × Nat} (hrg : zrg T FR AR FI AI) (hh : (T h).1 = 0) (ht : t.1 ≠ 0) : zrg (zsT T h t) (zzR FR h) (zzQ AR h) (zzF FI h) (zzA AI h) := by
  have up : ∀ b, (T b).1 ≠ 0 → (zsT T h t b).1 ≠ 0 := by
    intro b hb
    by_cases e : b = h
    · subst e; exact absurd hh hb
    · simp only [zsT, if_neg e]; exact hb
  refine ⟨fun k j hk => ?_, fun k i hk => ?_, fun k j b hk hb => ?_, fun k i b hk hb => ?_⟩
  · by_cases e : k = h
    · subst e; simp only [zzF, if_true]; split <;> exact ⟨by decide, by decide⟩
    · simp only [zsT, if_neg e, zzF] at hk ⊢; exact hrg.1 k j hk
  · by_cases e : k = h
    · subst e; simp only [zzA, if_true]; split <;> exact ⟨by decide, by decide⟩
    · simp only [zsT, if_neg e, zzA] at hk ⊢; exact hrg.2.1 k i hk
  · by_cases e : k = h
    · subst e; simp [zzR] at hb
    · simp only [zsT, if_neg e, zzR] at hk hb; exact up b (hrg.2.2.1 k j b hk hb)
  · by_cases e : k = h
    · subst e; simp [zzQ] at hb
    · simp only [zsT, if_neg e, zzQ] at hk hb; exact up b (hrg.2.2.2 k i b hk hb)
section ZAlloc
variable {M : zMd} {Post : zPost} {G : zG} {pc : Nat} {ls : List (Option zVal)} {st : List zVal} {T : zTt} {FR : zFR} {AR : zAR} {FI : zFI} {AI : zAI} {k n : Nat}
theorem zgrow {p : Program} {l : Launch} {e : Env} {R : Room} {s : State} {m : MethodId} {args : Array Value} {below : List Frame} {meth : Method} {c : Code} {H1 : Heap} {locs : List Loc} {Q : State → Prop} {A : Nat → Prop} {D : va_G} {cs : zCs} {T0 : zTt} {ad0 ad : Nat → Nat} {L : List Nat} {h q : Nat} {t : Nat × Nat} {lsr : Array Slot} {pc' : Nat}
    (hnd : L.Nodup) (hL : ∀ k, k ∈ L ↔ (T k).1 ≠ 0) (hrg : zrg T FR AR FI AI) (hT0 : (∀ k, (T0 k).1 ≠ 0 → (T k).1 ≠ 0 ∧ ad k = ad0 k) ∧ ∀ i, ad (zb + i) = ad0 (zb + i)) (hh : (T h).1 = 0) (hzb : h < zb) (ht : t.1 ≠ 0) (hl : lv_has lsr c.maxLocals (zlv ad 0 ls)) (h1 : ∀ v, some v ∈ ls → zok T v) (h2 : ∀ v ∈ st, zok T v)
    (hP : va_P D vwCl (zWd cs ad T FR AR FI AI L ++ [(q, zE cs (va_up ad h q) (zsT T h t) (zzR FR h) (zzQ AR h) (zzF FI h) (zzA AI h) h)]) H1) (hD : va_D A (zWd cs ad T FR AR FI AI L ++ [(q, zE cs (va_up ad h q) (zsT T h t) (zzR FR h) (zzQ AR h) (zzF FI h) (zzA AI h) h)])) (hS : va_S A s.heap H1 locs)
    (kk : zV (p, l, e, R, s, m, args, below, meth, c, Q, A, D, cs, T0, ad0) pc' ls (zR h :: st) (zsT T h t) (zzR FR h) (zzQ AR h) (zzF FI h) (zzA AI h) k n) : W p l e R s m args below meth c H1 locs k n Q (F0 m pc' lsr (.ref q :: st.map (zc ad))) := by
  have hw : zWd cs ad T FR AR FI AI L ++ [(q, zE cs (va_up ad h q) (zsT T h t) (zzR FR h) (zzQ AR h) (zzF FI h) (zzA AI h) h)] = zWd cs (va_up ad h q) (zsT T h t) (zzR FR h) (zzQ AR h) (zzF FI h) (zzA AI h) (L ++ [h]) := by
    rw [zWd, zWd, List.map_append]
    congr 1
    · refine List.map_congr_left fun j hj => ?_
      have hj0 := (hL j).mp hj
      have hne : j ≠ h := fun e => hj0 (by rw [e]; exact hh)
      rw [zE_new hrg hh hj0]
      simp [va_up, hne]
    · simp [va_up]
  rw [hw] at hP hD
  have hn : h ∉ L := fun z => (hL h).mp z hh
  have q1 : ∀ k, (T k).1 ≠ 0 → va_up ad h q k = ad k := fun k hk => by
    have hne : k ≠ h := fun e => hk (by rw [e]; exact hh)
    simp [va_up, hne]
  have q2 : ∀ k, (T k).1 ≠ 0 → (zsT T h t k).1 ≠ 0 := fun k hk => by
    have hne : k ≠ h := fun e => hk (by rw [e]; exact hh)
    simp only [zsT, if_neg hne]; exact hk
  have q3 : ∀ i, va_up ad h q (zb + i) = ad (zb + i) := fun i => by
    have hne : zb + i ≠ h := by omega
    simp [va_up, hne]
  have hM : zM A D cs T0 ad0 (va_up ad h q) (zsT T h t) (zzR FR h) (zzQ AR h) (zzF FI h) (zzA AI h) H1 := by
    refine ⟨L ++ [h], ?_, fun k => ?_, hP, hD, zrg_new hrg hh ht, fun k hk => ?_, fun i => (q3 i).trans (hT0.2 i)⟩
    · rw [List.nodup_append]
      exact ⟨hnd, by simp, fun a ha b hb => by rw [List.mem_singleton.mp hb]; exact fun e => hn (e ▸ ha)⟩
    · rw [List.mem_append, List.mem_singleton]
      by_cases e : k = h
      · subst e; simp only [zsT, if_true]; exact ⟨fun _ => ht, fun _ => Or.inr trivial⟩
      · simp only [zsT, if_neg e]; rw [← hL k]; exact ⟨fun z => z.resolve_right e, Or.inl⟩
    · obtain ⟨a1, a2⟩ := hT0.1 k hk
      exact ⟨q2 k a1, (q1 k a1).trans a2⟩
  have g := kk (va_up ad h q) H1 locs lsr hM hS (by rw [zlv_ext q1 q3 ls 0 h1]; exact hl) (fun v hv => zok_ext q2 (h1 v hv)) (zcons (fun b hb => by cases hb; simp only [zsT, if_true]; exact ht) (fun v hv => zok_ext q2 (h2 v hv)))
  rw [List.map_cons, zst_ext q1 q3 st h2, show zc (va_up ad h q) (zR h) = .ref q from congrArg Value.ref (by simp [va_up])] at g
  exact g
theorem zv_new (C : zCx M Post G) {i ci : Nat} {Cn : String} {Tc : u_T} (h : Nat) (hd : decode M.2.1 pc = .ok (.new i, 3)) (hcl : zCl ci Cn Tc) (hlk0 : Cond.classLink M.1.cls i Cn ∈ zWs) (hin0 : Cond.instantiable Cn (znf ci) ∈ zWs) (hini : Cond.initialized Cn ∈ zWs) (hdf : ∀ j, j < znf ci → zdf (zty ci j) = true) (hh : (T h).1 = 0) (hzb : Nat.blt h zb = true) (hkc : k + 1 ≤ M.2.2.2.2.cells ∧ n + znf ci ≤ M.2.2.2.2.slots) (kk : zV G (pc + 3) ls (zR h :: st) (zsT T h (1, ci)) (zzR FR h) (zzQ AR h) (zzF FI h) (zzA AI h) (k + 1) (n + znf ci)) : zV G pc ls st T FR AR FI AI k n := by
  obtain ⟨p, l, e, R, s, m, args, below, meth, c, Q, A, D, cs, T0, ad0⟩ := G
  obtain ⟨hx, hb, hml, hr, hlk, hnm, hown, hts, hK, hA, hR, hQ, hSt, hfl⟩ := C
  intro ad H locs lsr hM hS hl h1 h2
  subst hR
  obtain ⟨L, hnd, hL, hP, hD, hrg, hT0⟩ := id hM
  refine va_new (ci := ci) (fs := (List.range (znf ci)).map fun j => zfv ad (zzR FR h) (zzF FI h) h j (zty ci j)) (C := Cn) (T := Tc) (N := znf ci) hx hb hts hcl.2.1 (zty ci) hcl.2.2.1 hown (hts _ hlk0) (hts _ hin0) (hts _ hini) hK hP hD hS hA hcl.1 ?_ hkc.1 hkc.2 hd (fun q H1 hP1 hD1 hS1 => ?_)
  · intro j hj
    have hv : vp_V ((List.range (znf ci)).map fun j => zfv ad (zzR FR h) (zzF FI h) h j (zty ci j)) j = zfv ad (zzR FR h) (zzF FI h) h j (zty ci j) := by
      simp [vp_V, hj]
    rw [hv]
    have hq := hdf j hj
    revert hq
    cases zty ci j <;> intro hq <;> first | (cases hq; done) | (simp [zfv, zzR, zzF, defaultValue, va_rf]; done) | (simp [zfv, zzR, zzF, defaultValue, va_rf]; rfl)
  · have e9 : zE cs (va_up ad h q) (zsT T h (1, ci)) (zzR FR h) (zzQ AR h) (zzF FI h) (zzA AI h) h = .inr (ci, (List.range (znf ci)).map fun j => zfv ad (zzR FR h) (zzF FI h) h j (zty ci j)) := by
      rw [zE_obj (ci := ci) (by simp [zsT])]
      congr 2
      refine List.map_congr_left fun j _ => ?_
      cases zty ci j <;> simp [zfv, zzR]
    rw [← e9] at hP1 hD1
    exact zgrow hnd hL hrg hT0 hh (Nat.le_of_ble_eq_true hzb) (by show (1 : Nat) ≠ 0; decide) hl h1 h2 hP1 hD1 hS1 kk
theorem zv_newI (C : zCx M Post G) {x : Int} {N : Nat} (h : Nat) (hd : decode M.2.1 pc = .ok (.newarray .int, 2)) (hw : Cond.arrayClass .int ∈ zWs) (hN : x = (N : Int)) (hNb : N * 4 ≤ 536870912) (hh : (T h).1 = 0) (hzb : Nat.blt h zb = true) (hkc : k + 1 ≤ M.2.2.2.2.cells ∧ n + N ≤ M.2.2.2.2.slots) (kk : zV G (pc + 2) ls (zR h :: st) (zsT T h (2, N)) (zzR FR h) (zzQ AR h) (zzF FI h) (zzA AI h) (k + 1) (n + N)) : zV G pc ls (zI x :: st) T FR AR FI AI k n := by
  obtain ⟨p, l, e, R, s, m, args, below, meth, c, Q, A, D, cs, T0, ad0⟩ := G
  obtain ⟨hx, hb, hml, hr, hlk, hnm, hown, hts, hK, hA, hR, hQ, hSt, hfl⟩ := C
  intro ad H locs lsr hM hS hl h1 h2
  subst hR
  obtain ⟨L, hnd, hL, hP, hD, hrg, hT0⟩ := id hM
  have hx3 : zr32 x := zhd h2
  have hcl : (Int32.ofInt x).toNatClampNeg = N := by show ((Int32.ofInt x).toInt.toNat) = N; rw [z32 hx3]; omega
  refine va_newa (atype := .int) (ty := .int) (a0 := (N, .inl fun _ => 0)) hx hb (hts _ hw) rfl hK hP hD hS hA (fun cA => ?_) (fun z => ?_) hcl hNb hkc.1 hkc.2 hd (fun q cA H1 hK1 hP1 hD1 hS1 => ?_)
  · rfl
  · rw [z32z, z32lt hx3 zr0] at z; omega
  · have e8 : cA = cs.1 := by
      have a1 := (hK1.2 5 (cA, .int) (by simp [zTys])).2
      have a2 := (hK.2 0 (cs.1, .int) (by simp [zTys])).2
      exact Option.some.inj (a1.symm.trans a2)
    subst e8
    have e9 : zE cs (va_up ad h q) (zsT T h (2, N)) (zzR FR h) (zzQ AR h) (zzF FI h) (zzA AI h) h = .inl (cs.1, N, .inl fun _ => 0) := by
      rw [zE_int (n := N) (by simp [zsT])]
      simp [zzA]
    rw [← e9] at hP1 hD1
    exact zgrow hnd hL hrg hT0 hh (Nat.le_of_ble_eq_true hzb) (by show (2 : Nat) ≠ 0; decide) hl h1 (ztl h2) hP1 hD1 hS1 kk
theorem zv_newB (C : zCx M Post G) {x : Int} {N : Nat} (h : Nat) (hd : decode M.2.1 pc = .ok (.newarray .byte, 2)) (hw : Cond.arrayClass .byte ∈ zWs) (hN : x = (N : Int)) (hNb : N * 1 ≤ 536870912) (hh : (T h).1 = 0) (hzb : Nat.blt h zb = true) (hkc : k + 1 ≤ M.2.2.2.2.cells ∧ n + N ≤ M.2.2.2.2.slots) (kk : zV G (pc + 2) ls (zR h :: st) (zsT T h (3, N)) (zzR FR h) (zzQ AR h) (zzF FI h) (zzA AI h) (k + 1) (n + N)) : zV G pc ls (zI x :: st) T FR AR FI AI k n := by
  obtain ⟨p, l, e, R, s, m, args, below, meth, c, Q, A, D, cs, T0, ad0⟩ := G
  obtain ⟨hx, hb, hml, hr, hlk, hnm, hown, hts, hK, hA, hR, hQ, hSt, hfl⟩ := C
  intro ad H locs lsr hM hS hl h1 h2
  subst hR
  obtain ⟨L, hnd, hL, hP, hD, hrg, hT0⟩ := id hM
  have hx3 : zr32 x := zhd h2
  have hcl : (Int32.ofInt x).toNatClampNeg = N := by show ((Int32.ofInt x).toInt.toNat) = N; rw [z32 hx3]; omega
  refine va_newa (atype := .byte) (ty := .byte) (a0 := (N, .inl fun _ => 0)) hx hb (hts _ hw) rfl hK hP hD hS hA (fun cA => ?_) (fun z => ?_) hcl hNb hkc.1 hkc.2 hd (fun q cA H1 hK1 hP1 hD1 hS1 => ?_)
  · rfl
  · rw [z32z, z32lt hx3 zr0] at z; omega
  · have e8 : cA = cs.2.1 := by
      have a1 := (hK1.2 5 (cA, .byte) (by simp [zTys])).2
      have a2 := (hK.2 1 (cs.2.1, .byte) (by simp [zTys])).2
      exact Option.some.inj (a1.symm.trans a2)
    subst e8
    have e9 : zE cs (va_up ad h q) (zsT T h (3, N)) (zzR FR h) (zzQ AR h) (zzF FI h) (zzA AI h) h = .inl (cs.2.1, N, .inl fun _ => 0) := by
      rw [zE_byte (n := N) (by simp [zsT])]
      simp [zzA]
    rw [← e9] at hP1 hD1
    exact zgrow hnd hL hrg hT0 hh (Nat.le_of_ble_eq_true hzb) (by show (3 : Nat) ≠ 0; decide) hl h1 (ztl h2) hP1 hD1 hS1 kk
theorem zv_newJ (C : zCx M Post G) {x : Int} {N : Nat} (h : Nat) (hd : decode M.2.1 pc = .ok (.newarray .long, 2)) (hw : Cond.arrayClass .long ∈ zWs) (hN : x = (N : Int)) (hNb : N * 8 ≤ 536870912) (hh : (T h).1 = 0) (hzb : Nat.blt h zb = true) (hkc : k + 1 ≤ M.2.2.2.2.cells ∧ n + N ≤ M.2.2.2.2.slots) (kk : zV G (pc + 2) ls (zR h :: st) (zsT T h (4, N)) (zzR FR h) (zzQ AR h) (zzF FI h) (zzA AI h) (k + 1) (n + N)) : zV G pc ls (zI x :: st) T FR AR FI AI k n := by
  obtain ⟨p, l, e, R, s, m, args, below, meth, c, Q, A, D, cs, T0, ad0⟩ := G
  obtain ⟨hx, hb, hml, hr, hlk, hnm, hown, hts, hK, hA, hR, hQ, hSt, hfl⟩ := C
  intro ad H locs lsr hM hS hl h1 h2
  subst hR
  obtain ⟨L, hnd, hL, hP, hD, hrg, hT0⟩ := id hM
  have hx3 : zr32 x := zhd h2
  have hcl : (Int32.ofInt x).toNatClampNeg = N := by show ((Int32.ofInt x).toInt.toNat) = N; rw [z32 hx3]; omega
  refine va_newa (atype := .long) (ty := .long) (a0 := (N, .inr (.inl fun _ => 0))) hx hb (hts _ hw) rfl hK hP hD hS hA (fun cA => ?_) (fun z => ?_) hcl hNb hkc.1 hkc.2 hd (fun q cA H1 hK1 hP1 hD1 hS1 => ?_)
  · rfl
  · rw [z32z, z32lt hx3 zr0] at z; omega
  · have e8 : cA = cs.2.2.1 := by
      have a1 := (hK1.2 5 (cA, .long) (by simp [zTys])).2
      have a2 := (hK.2 2 (cs.2.2.1, .long) (by simp [zTys])).2
      exact Option.some.inj (a1.symm.trans a2)
    subst e8
    have e9 : zE cs (va_up ad h q) (zsT T h (4, N)) (zzR FR h) (zzQ AR h) (zzF FI h) (zzA AI h) h = .inl (cs.2.2.1, N, .inr (.inl fun _ => 0)) := by
      rw [zE_long (n := N) (by simp [zsT])]
      simp [zzA]
    rw [← e9] at hP1 hD1
    exact zgrow hnd hL hrg hT0 hh (Nat.le_of_ble_eq_true hzb) (by show (4 : Nat) ≠ 0; decide) hl h1 (ztl h2) hP1 hD1 hS1 kk
theorem zv_newQ5 (C : zCx M Post G) {x : Int} {N i : Nat} (h : Nat) (hd : decode M.2.1 pc = .ok (.anewarray i, 3)) (hw : Cond.classLink M.1.cls i "DeferredDesk$Book" ∈ zWs)  (hN : x = (N : Int)) (hNb : N * 4 ≤ 536870912) (hh : (T h).1 = 0) (hzb : Nat.blt h zb = true) (hkc : k + 1 ≤ M.2.2.2.2.cells ∧ n + N ≤ M.2.2.2.2.slots) (kk : zV G (pc + 3) ls (zR h :: st) (zsT T h (5, N)) (zzR FR h) (zzQ AR h) (zzF FI h) (zzA AI h) (k + 1) (n + N)) : zV G pc ls (zI x :: st) T FR AR FI AI k n := by
  obtain ⟨p, l, e, R, s, m, args, below, meth, c, Q, A, D, cs, T0, ad0⟩ := G
  obtain ⟨hx, hb, hml, hr, hlk, hnm, hown, hts, hK, hA, hR, hQ, hSt, hfl⟩ := C
  intro ad H locs lsr hM hS hl h1 h2
  subst hR
  obtain ⟨L, hnd, hL, hP, hD, hrg, hT0⟩ := id hM
  have hx3 : zr32 x := zhd h2
  have hcl : (Int32.ofInt x).toNatClampNeg = N := by show ((Int32.ofInt x).toInt.toNat) = N; rw [z32 hx3]; omega
  refine va_newq (C := "DeferredDesk$Book") hx hb hown (hts _ hw) hSt.2.2.2.2.2.1 hK hP hD hS hA (fun z => ?_) hcl hNb hkc.1 hkc.2 hd (fun q cA H1 hK1 hP1 hD1 hS1 => ?_)
  · rw [z32z, z32lt hx3 zr0] at z; omega
  · have e8 : cA = cs.2.2.2.1 := by
      obtain ⟨_, _, _, _, _, a1⟩ := (hK1.2 5 (cA, .object "DeferredDesk$Book") (by simp [zTys])).2
      obtain ⟨_, _, _, _, _, a2⟩ := (hK.2 3 (cs.2.2.2.1, .object "DeferredDesk$Book") (by simp [zTys])).2
      exact Option.some.inj (a1.symm.trans a2)
    subst e8
    have e9 : zE cs (va_up ad h q) (zsT T h (5, N)) (zzR FR h) (zzQ AR h) (zzF FI h) (zzA AI h) h = .inl (cs.2.2.2.1, N, .inr (.inr (.inr (.inr (fun _ => none))))) := by
      rw [zE_r5 (n := N) (by simp [zsT])]
      simp [zzQ]
    rw [← e9] at hP1 hD1
    exact zgrow hnd hL hrg hT0 hh (Nat.le_of_ble_eq_true hzb) (by show (5 : Nat) ≠ 0; decide) hl h1 (ztl h2) hP1 hD1 hS1 kk
theorem zv_newQ6 (C : zCx M Post G) {x : Int} {N i : Nat} (h : Nat) (hd : decode M.2.1 pc = .ok (.anewarray i, 3)) (hw : Cond.classLink M.1.cls i "DeferredDesk$Closing" ∈ zWs)  (hN : x = (N : Int)) (hNb : N * 4 ≤ 536870912) (hh : (T h).1 = 0) (hzb : Nat.blt h zb = true) (hkc : k + 1 ≤ M.2.2.2.2.cells ∧ n + N ≤ M.2.2.2.2.slots) (kk : zV G (pc + 3) ls (zR h :: st) (zsT T h (6, N)) (zzR FR h) (zzQ AR h) (zzF FI h) (zzA AI h) (k + 1) (n + N)) : zV G pc ls (zI x :: st) T FR AR FI AI k n := by
  obtain ⟨p, l, e, R, s, m, args, below, meth, c, Q, A, D, cs, T0, ad0⟩ := G
  obtain ⟨hx, hb, hml, hr, hlk, hnm, hown, hts, hK, hA, hR, hQ, hSt, hfl⟩ := C
  intro ad H locs lsr hM hS hl h1 h2
  subst hR
  obtain ⟨L, hnd, hL, hP, hD, hrg, hT0⟩ := id hM
  have hx3 : zr32 x := zhd h2
  have hcl : (Int32.ofInt x).toNatClampNeg = N := by show ((Int32.ofInt x).toInt.toNat) = N; rw [z32 hx3]; omega
  refine va_newq (C := "DeferredDesk$Closing") hx hb hown (hts _ hw) hSt.2.2.2.2.2.2 hK hP hD hS hA (fun z => ?_) hcl hNb hkc.1 hkc.2 hd (fun q cA H1 hK1 hP1 hD1 hS1 => ?_)
  · rw [z32z, z32lt hx3 zr0] at z; omega
  · have e8 : cA = cs.2.2.2.2 := by
      obtain ⟨_, _, _, _, _, a1⟩ := (hK1.2 5 (cA, .object "DeferredDesk$Closing") (by simp [zTys])).2
      obtain ⟨_, _, _, _, _, a2⟩ := (hK.2 4 (cs.2.2.2.2, .object "DeferredDesk$Closing") (by simp [zTys])).2
      exact Option.some.inj (a1.symm.trans a2)
    subst e8
    have e9 : zE cs (va_up ad h q) (zsT T h (6, N)) (zzR FR h) (zzQ AR h) (zzF FI h) (zzA AI h) h = .inl (cs.2.2.2.2, N, .inr (.inr (.inr (.inr (fun _ => none))))) := by
      rw [zE_r6 (n := N) (by simp [zsT])]
      simp [zzQ]
    rw [← e9] at hP1 hD1
    exact zgrow hnd hL hrg hT0 hh (Nat.le_of_ble_eq_true hzb) (by show (6 : Nat) ≠ 0; decide) hl h1 (ztl h2) hP1 hD1 hS1 kk
end ZAlloc
