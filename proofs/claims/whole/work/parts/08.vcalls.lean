theorem zsum (ad : Nat → Nat) : ∀ st : List zVal, ((st.map (zc ad)).map fun v => v.category).sum = (st.map zcat).sum := fun st => by
  rw [List.map_map]
  congr 1
  exact List.map_congr_left fun v _ => zcat_ok ad v
def zpush (ret : Option FieldType) (r : zVal) (st : List zVal) : List zVal := match ret with
  | none => st
  | some _ => r :: st
theorem zpush_ok {T T' : zTt} {ret : Option FieldType} {r : zVal} {st : List zVal} (h : zok T' r) (hT : ∀ k, (T k).1 ≠ 0 → (T' k).1 ≠ 0) (hs : ∀ v ∈ st, zok T v) : ∀ v ∈ zpush ret r st, zok T' v := by
  cases ret with
  | none => exact fun v hv => zok_ext hT (hs v hv)
  | some _ => exact zcons h (fun v hv => zok_ext hT (hs v hv))
theorem zpush_map {T : zTt} {ad ad' : Nat → Nat} {ret : Option FieldType} {r : zVal} {st : List zVal} (h : ∀ k, (T k).1 ≠ 0 → ad' k = ad k) (h' : ∀ i, ad' (zb + i) = ad (zb + i)) (hs : ∀ v ∈ st, zok T v) : (zpush ret r st).map (zc ad') = (zret ret ad' r).toList ++ st.map (zc ad) := by
  cases ret with
  | none => exact zst_ext h h' st hs
  | some _ => exact congrArg (List.cons _) (zst_ext h h' st hs)
/-- behind a call -/
theorem zback {p : Program} {l : Launch} {e : Env} {R : Room} {s : State} {m : MethodId} {args : Array Value} {below : List Frame} {meth : Method} {c : Code} {H : Heap} {locs : List Loc} {Q : State → Prop} {A : Nat → Prop} {D : va_G} {cs : zCs} {T0 T : zTt} {ad0 ad : Nat → Nat} {FR : zFR} {AR : zAR} {FI : zFI} {AI : zAI} {L : List Nat} {ret : Option FieldType} {a : Array Value} {mc ms pc k n : Nat} {lsr : Array Slot} {st0 : List Value} {ls : List (Option zVal)} {st : List zVal}
    (hD : va_D A (zWd cs ad T FR AR FI AI L)) (hS : va_S A s.heap H locs) (hA : ∀ q, s.heap.size ≤ q → A q) (hT0 : (∀ k, (T0 k).1 ≠ 0 → (T k).1 ≠ 0 ∧ ad k = ad0 k) ∧ ∀ i, ad (zb + i) = ad0 (zb + i)) (hl : lv_has lsr c.maxLocals (zlv ad 0 ls)) (h1 : ∀ v, some v ∈ ls → zok T v) (h2 : ∀ v ∈ st, zok T v)
    (hr : va_Run p l e R s m args below meth c H locs k n mc ms (F0 m pc lsr st0) (st.map (zc ad)) (zQ D cs T ad (fun r T FR AR FI AI => zV (p, l, e, R, s, m, args, below, meth, c, Q, A, D, cs, T0, ad0) (pc + 3) ls (zpush ret r st) T FR AR FI AI (k + mc) (n + ms)) ret (va_A (zWd cs ad T FR AR FI AI L) H.size) a) (va_A (zWd cs ad T FR AR FI AI L) H.size)) :
    W p l e R s m args below meth c H locs k n Q (F0 m pc lsr st0) := by
  have hF := zfree hD hS hA
  refine zcore_call hr hS hF (fun r T' FR' AR' FI' AI' ad' H1 locs1 hp hM1 ho hS1 => ?_)
  have hM2 := zM_up hM1 hF hT0
  obtain ⟨-, -, -, -, -, -, hT1⟩ := hM1
  have q1 : ∀ k, (T k).1 ≠ 0 → ad' k = ad k := fun k hk => (hT1.1 k hk).2
  have q2 : ∀ k, (T k).1 ≠ 0 → (T' k).1 ≠ 0 := fun k hk => (hT1.1 k hk).1
  have g := hp ad' H1 locs1 lsr hM2 hS1 (by rw [zlv_ext q1 hT1.2 ls 0 h1]; exact hl) (fun v hv => zok_ext q2 (h1 v hv)) (zpush_ok ho q2 h2)
  rw [zpush_map q1 hT1.2 h2] at g
  exact g
def zMv (M : zMd) (n : Nat) : Prop := zMk M n ∧ Cond.instanceMethod M.1 ∈ zWs ∧ Cond.selects M.1.cls M.1 M.1 ∈ zWs
def zMs (M : zMd) (n : Nat) : Prop := zMk M n ∧ Cond.static M.1 ∈ zWs
def zMi (M : zMd) (n : Nat) : Prop := zMk M n ∧ Cond.instanceMethod M.1 ∈ zWs ∧ M.1.name = "<init>" ∧ M.2.2.2.1 = none
section ZCalls
variable {M : zMd} {Post : zPost} {G : zG} {pc : Nat} {ls : List (Option zVal)} {st : List zVal} {T : zTt} {FR : zFR} {AR : zAR} {FI : zFI} {AI : zAI} {k n : Nat}
theorem zg_callV (C : zCx M Post G) {M' : zMd} {as : List zVal} {i o ci na : Nat} (hd : decode M.2.1 pc = .ok (.invokevirtual i, 3)) (hk : zMv M' na) (hl0 : Cond.methodLink M.1.cls i M'.1 ∈ zWs) (hT : T o = (1, ci)) (hci : (vwCl[ci]?).map (fun q => q.1) = some M'.1.cls) (hna : as.length = na) (hR9 : zRm M M') (hkc : k + M'.2.2.2.2.cells ≤ M.2.2.2.2.cells ∧ n + M'.2.2.2.2.slots ≤ M.2.2.2.2.slots) (hst : Nat.ble (st.map zcat).sum 8 = true) (hm : zMet M' (zR o :: as) T FR AR FI AI (fun r T FR AR FI AI => zV G (pc + 3) ls (zpush M'.2.2.2.1 r st) T FR AR FI AI (k + M'.2.2.2.2.cells) (n + M'.2.2.2.2.slots))) : zV G pc ls (as.reverse ++ zR o :: st) T FR AR FI AI k n := by
  obtain ⟨p, l, e, R, s, m, args, below, meth, c, Q, A, D, cs, T0, ad0⟩ := G
  obtain ⟨hx, hb, hml, hr, hlk, hnm, hown, hts, hK, hA, hR, hQ, hSt, hfl⟩ := C
  intro ad H locs lsr hM hS hl h1 h2
  obtain ⟨L, hnd, hL, hP, hD, hrg, hT0⟩ := id hM
  subst hR
  have hs9 : ∀ v ∈ st, zok T v := fun v hv => h2 v (List.mem_append_right _ (List.mem_cons_of_mem _ hv))
  have ha9 : ∀ v ∈ zR o :: as, zok T v := fun v hv => by
    rcases List.mem_cons.mp hv with h | h
    · rw [h]; exact h2 _ (List.mem_append_right _ List.mem_cons_self)
    · exact h2 v (List.mem_append_left _ (List.mem_reverse.mpr h))
  have ho : o ∈ L := (hL o).mpr (by simp [hT])
  obtain ⟨q0, hq0⟩ := List.getElem?_of_mem ho
  have he : (zWd cs ad T FR AR FI AI L)[q0]? = some (ad o, .inr (ci, (List.range (znf ci)).map fun j => zfv ad FR FI o j (zty ci j))) := by rw [zWd, List.getElem?_map, hq0, ← zE_obj hT]; rfl
  obtain ⟨cq, hcq, hcn⟩ := Option.map_eq_some_iff.mp hci
  have hrv := va_recv hK hP hcq he
  rw [hcn] at hrv
  refine zback (ret := M'.2.2.2.1) (mc := M'.2.2.2.2.cells) (ms := M'.2.2.2.2.slots) hD hS hA hT0 hl h1 hs9 (va_runV (As := as.map (zc ad)) (rest := st.map (zc ad)) (b := ad o) (nL := M.2.2.1) ⟨hx, hb, hml, hown, hts⟩ (hm l D cs ad L H.size hfl hnd hL hrg (hD.weaken (fun _ _ _ _ => trivial)) ha9) ⟨⟨rfl, rfl, hR9.1, hR9.2, zws_pay hk.1.1 hts, List.mem_cons_self, hts _ hk.1.1, hts _ hk.1.2.1, hk.1.2.2.1, fun sig h => by have h2 := hk.1.2.2.2; rw [h] at h2; exact (Option.some.inj h2).symm, hts _ hl0⟩, hts _ hk.2.1, hts _ hk.2.2⟩ ⟨zB_blind, hrv, fun U hU hW => ⟨rfl, by rw [hU], by rw [hU]; exact hP, va_K.moved hW.alike hK, ?_⟩⟩ rfl (by rw [List.length_map]; exact hna) (hl.1.trans hml) ?_ ?_ hd hkc)
  · rw [hU]; exact zSta.moved hW (by have h9 := ((hSt.kept hS.2.1).narrow (zfree hD hS hA)); have e9 : (fun i => ad0 (zb + i)) = fun i => ad (zb + i) := funext fun i => (hT0.2 i).symm; rw [e9] at h9; exact h9)
  · show (as.reverse ++ zR o :: st).map (zc ad) = (as.map (zc ad)).reverse ++ .ref (ad o) :: st.map (zc ad)
    rw [List.map_append, List.map_reverse]; rfl
  · exact lv_room (by rw [zsum]; exact Nat.le_of_ble_eq_true hst)
theorem zg_callS (C : zCx M Post G) {M' : zMd} {as : List zVal} {i na : Nat} (hd : decode M.2.1 pc = .ok (.invokestatic i, 3)) (hk : zMs M' na) (hl0 : Cond.methodLink M.1.cls i M'.1 ∈ zWs) (hna : as.length = na) (hR9 : zRm M M') (hkc : k + M'.2.2.2.2.cells ≤ M.2.2.2.2.cells ∧ n + M'.2.2.2.2.slots ≤ M.2.2.2.2.slots) (hst : Nat.ble (st.map zcat).sum 8 = true) (hm : zMet M' as T FR AR FI AI (fun r T FR AR FI AI => zV G (pc + 3) ls (zpush M'.2.2.2.1 r st) T FR AR FI AI (k + M'.2.2.2.2.cells) (n + M'.2.2.2.2.slots))) : zV G pc ls (as.reverse ++ st) T FR AR FI AI k n := by
  obtain ⟨p, l, e, R, s, m, args, below, meth, c, Q, A, D, cs, T0, ad0⟩ := G
  obtain ⟨hx, hb, hml, hr, hlk, hnm, hown, hts, hK, hA, hR, hQ, hSt, hfl⟩ := C
  intro ad H locs lsr hM hS hl h1 h2
  obtain ⟨L, hnd, hL, hP, hD, hrg, hT0⟩ := id hM
  subst hR
  have hs9 : ∀ v ∈ st, zok T v := fun v hv => h2 v (List.mem_append_right _ hv)
  have ha9 : ∀ v ∈ as, zok T v := fun v hv => h2 v (List.mem_append_left _ (List.mem_reverse.mpr hv))
  refine zback (ret := M'.2.2.2.1) (mc := M'.2.2.2.2.cells) (ms := M'.2.2.2.2.slots) hD hS hA hT0 hl h1 hs9 (va_runS (As := as.map (zc ad)) (rest := st.map (zc ad)) (nL := M.2.2.1) ⟨hx, hb, hml, hown, hts⟩ (hm l D cs ad L H.size hfl hnd hL hrg (hD.weaken (fun _ _ _ _ => trivial)) ha9) ⟨⟨rfl, rfl, hR9.1, hR9.2, zws_pay hk.1.1 hts, List.mem_cons_self, hts _ hk.1.1, hts _ hk.1.2.1, hk.1.2.2.1, fun sig h => by have h2 := hk.1.2.2.2; rw [h] at h2; exact (Option.some.inj h2).symm, hts _ hl0⟩, hts _ hk.2⟩ ⟨zB_blind, fun U hU hW => ⟨rfl, by rw [hU], by rw [hU]; exact hP, va_K.moved hW.alike hK, ?_⟩⟩ rfl (by rw [List.length_map]; exact hna) (hl.1.trans hml) ?_ ?_ hd hkc)
  · rw [hU]; exact zSta.moved hW (by have h9 := ((hSt.kept hS.2.1).narrow (zfree hD hS hA)); have e9 : (fun i => ad0 (zb + i)) = fun i => ad (zb + i) := funext fun i => (hT0.2 i).symm; rw [e9] at h9; exact h9)
  · show (as.reverse ++ st).map (zc ad) = (as.map (zc ad)).reverse ++ st.map (zc ad)
    rw [List.map_append, List.map_reverse]
  · exact lv_room (by rw [zsum]; exact Nat.le_of_ble_eq_true hst)
theorem zg_callI (C : zCx M Post G) {M' : zMd} {i o : Nat} (hd : decode M.2.1 pc = .ok (.invokespecial i, 3)) (hk : zMi M' 0) (hl0 : Cond.methodLink M.1.cls i M'.1 ∈ zWs) (hR9 : zRm M M') (hkc : k + M'.2.2.2.2.cells ≤ M.2.2.2.2.cells ∧ n + M'.2.2.2.2.slots ≤ M.2.2.2.2.slots) (hst : Nat.ble (st.map zcat).sum 8 = true) (hm : zMet M' [zR o] T FR AR FI AI (fun r T FR AR FI AI => zV G (pc + 3) ls (zpush M'.2.2.2.1 r st) T FR AR FI AI (k + M'.2.2.2.2.cells) (n + M'.2.2.2.2.slots))) : zV G pc ls (zR o :: st) T FR AR FI AI k n := by
  obtain ⟨p, l, e, R, s, m, args, below, meth, c, Q, A, D, cs, T0, ad0⟩ := G
  obtain ⟨hx, hb, hml, hr, hlk, hnm, hown, hts, hK, hA, hR, hQ, hSt, hfl⟩ := C
  intro ad H locs lsr hM hS hl h1 h2
  obtain ⟨L, hnd, hL, hP, hD, hrg, hT0⟩ := id hM
  subst hR
  have hs9 : ∀ v ∈ st, zok T v := ztl h2
  have ha9 : ∀ v ∈ [zR o], zok T v := zcons (zhd h2) (fun v hv => nomatch hv)
  obtain ⟨y', c', L', r', R'⟩ := M'
  have hret : r' = none := hk.2.2.2
  subst hret
  refine zback (ret := none) (mc := R'.cells) (ms := R'.slots) hD hS hA hT0 hl h1 hs9 (va_runI (As := []) (rest := st.map (zc ad)) (b := ad o) (nL := M.2.2.1) ⟨hx, hb, hml, hown, hts⟩ (hm l D cs ad L H.size hfl hnd hL hrg (hD.weaken (fun _ _ _ _ => trivial)) ha9) ⟨⟨rfl, rfl, hR9.1, hR9.2, zws_pay hk.1.1 hts, List.mem_cons_self, hts _ hk.1.1, hts _ hk.1.2.1, hk.1.2.2.1, fun sig h => by have h2 := hk.1.2.2.2; rw [h] at h2; exact (Option.some.inj h2).symm, hts _ hl0⟩, hk.2.2.1, hts _ hk.2.1⟩ ⟨zB_blind, fun U hU hW => ⟨rfl, by rw [hU], by rw [hU]; exact hP, va_K.moved hW.alike hK, ?_⟩⟩ rfl rfl (hl.1.trans hml) rfl ?_ hd hkc)
  · rw [hU]; exact zSta.moved hW (by have h9 := ((hSt.kept hS.2.1).narrow (zfree hD hS hA)); have e9 : (fun i => ad0 (zb + i)) = fun i => ad (zb + i) := funext fun i => (hT0.2 i).symm; rw [e9] at h9; exact h9)
  · exact lv_room (by rw [zsum]; exact Nat.le_of_ble_eq_true hst)
theorem zg_callIN (C : zCx M Post G) {M' : zMd} {i o : Nat} (hd : decode M.2.1 pc = .ok (.invokespecial i, 3)) (hk : zMi M' 0) (hl0 : (M.1.cls, i, M'.1) ∈ zNms) (hR9 : zRm M M') (hkc : k + M'.2.2.2.2.cells ≤ M.2.2.2.2.cells ∧ n + M'.2.2.2.2.slots ≤ M.2.2.2.2.slots) (hst : Nat.ble (st.map zcat).sum 8 = true) (hm : zMet M' [zR o] T FR AR FI AI (fun r T FR AR FI AI => zV G (pc + 3) ls (zpush M'.2.2.2.1 r st) T FR AR FI AI (k + M'.2.2.2.2.cells) (n + M'.2.2.2.2.slots))) : zV G pc ls (zR o :: st) T FR AR FI AI k n := by
  obtain ⟨p, l, e, R, s, m, args, below, meth, c, Q, A, D, cs, T0, ad0⟩ := G
  obtain ⟨hx, hb, hml, hr, hlk, hnm, hown, hts, hK, hA, hR, hQ, hSt, hfl⟩ := C
  intro ad H locs lsr hM hS hl h1 h2
  obtain ⟨L, hnd, hL, hP, hD, hrg, hT0⟩ := id hM
  subst hR
  have hs9 : ∀ v ∈ st, zok T v := ztl h2
  have ha9 : ∀ v ∈ [zR o], zok T v := zcons (zhd h2) (fun v hv => nomatch hv)
  obtain ⟨y', c', L', r', R'⟩ := M'
  have hret : r' = none := hk.2.2.2
  subst hret
  refine zback (ret := none) (mc := R'.cells) (ms := R'.slots) hD hS hA hT0 hl h1 hs9 (va_runIN (As := []) (rest := st.map (zc ad)) (b := ad o) (nL := M.2.2.1) ⟨hx, hb, hml, hown, hts⟩ (hm l D cs ad L H.size hfl hnd hL hrg (hD.weaken (fun _ _ _ _ => trivial)) ha9) ⟨⟨⟨rfl, rfl, hR9.1, hR9.2, zws_pay hk.1.1 hts, List.mem_cons_self⟩, hts _ hk.1.1, hts _ hk.1.2.1, hk.1.2.2.1, fun sig h => by have h2 := hk.1.2.2.2; rw [h] at h2; exact (Option.some.inj h2).symm, va_Nw.use rfl (hSt.2.2.2.1 _ hl0)⟩, hk.2.2.1, hts _ hk.2.1⟩ ⟨zB_blind, fun U hU hW => ⟨rfl, by rw [hU], by rw [hU]; exact hP, va_K.moved hW.alike hK, ?_⟩⟩ rfl rfl (hl.1.trans hml) rfl ?_ hd hkc)
  · rw [hU]; exact zSta.moved hW (by have h9 := ((hSt.kept hS.2.1).narrow (zfree hD hS hA)); have e9 : (fun i => ad0 (zb + i)) = fun i => ad (zb + i) := funext fun i => (hT0.2 i).symm; rw [e9] at h9; exact h9)
  · exact lv_room (by rw [zsum]; exact Nat.le_of_ble_eq_true hst)
theorem zv_objInit (C : zCx M Post G) {i o : Nat} (hd : decode M.2.1 pc = .ok (.invokespecial i, 3)) (hl0 : Cond.methodLink M.1.cls i objectInit ∈ zWs) (hi0 : Cond.instanceMethod objectInit ∈ zWs) (hc0 : Cond.code objectInit ⟨#[0xb1]⟩ 1 none ∈ zWs) (hfr : 1 ≤ M.2.2.2.2.frames) (hlo : (st.map zcat).sum + 12 ≤ M.2.2.2.2.locals) (kk : zV G (pc + 3) ls st T FR AR FI AI k n) : zV G pc ls (zR o :: st) T FR AR FI AI k n := by
  obtain ⟨p, l, e, R, s, m, args, below, meth, c, Q, A, D, cs, T0, ad0⟩ := G
  obtain ⟨hx, hb, hml, hr, hlk, hnm, hown, hts, hK, hA, hR, hQ, hSt, hfl⟩ := C
  intro ad H locs lsr hM hS hl h1 h2
  subst hR
  exact W.objInit hx hb hown (hts _ hl0) (hts _ hi0) (hts _ hc0) rfl hl.1 rfl hd hfr (by show 2 * 0 + _ + 12 ≤ _; rw [zsum]; omega) (kk ad H locs lsr hM hS hl h1 (ztl h2))
theorem zv_min (C : zCx M Post G) {i : Nat} {x y : Int} (hd : decode M.2.1 pc = .ok (.invokestatic i, 3)) (hl0 : Cond.methodLink M.1.cls i Lib.Math.min.name ∈ zWs) (hs0 : Cond.static Lib.Math.min.name ∈ zWs) (hi0 : Cond.initialized "java/lang/Math" ∈ zWs) (hc0 : Cond.code Lib.Math.min.name Lib.Math.min.code 2 (some .int) ∈ zWs) (hfr : 1 ≤ M.2.2.2.2.frames) (hlo : (st.map zcat).sum + 13 ≤ M.2.2.2.2.locals) (hkc : k ≤ M.2.2.2.2.cells ∧ n ≤ M.2.2.2.2.slots) (kk : zV G (pc + 3) ls (zI (min x y) :: st) T FR AR FI AI k n) : zV G pc ls (zI y :: zI x :: st) T FR AR FI AI k n := by
  obtain ⟨p, l, e, R, s, m, args, below, meth, c, Q, A, D, cs, T0, ad0⟩ := G
  obtain ⟨hx, hb, hml, hr, hlk, hnm, hown, hts, hK, hA, hR, hQ, hSt, hfl⟩ := C
  intro ad H locs lsr hM hS hl h1 h2
  subst hR
  have hx3 : zr32 x := zhd (ztl h2)
  have hy3 : zr32 y := zhd h2
  have hmr : zr32 (min x y) := by
    by_cases hxy : x ≤ y
    · rw [Int.min_eq_left hxy]; exact hx3
    · rw [Int.min_eq_right (by omega)]; exact hy3
  have kk' := kk ad H locs lsr hM hS hl h1 (zcons hmr (ztl (ztl h2)))
  have e1 : zc ad (zI (min x y)) = .int (if Int32.ofInt y < Int32.ofInt x then Int32.ofInt y else Int32.ofInt x) := by
    by_cases hxy : y < x
    · rw [if_pos ((z32lt hy3 hx3).mpr hxy), Int.min_eq_right (by omega)]; rfl
    · rw [if_neg (fun z => hxy ((z32lt hy3 hx3).mp z)), Int.min_eq_left (by omega)]; rfl
  rw [List.map_cons, e1] at kk'
  exact va_mmin hx hb hl.1.symm hown (hts _ hl0) (hts _ hs0) (hts _ hi0) (hts _ hc0) hfr (by rw [zsum]; exact hlo) hkc.1 hkc.2 hd kk'
def zcpA (AI : zAI) (a b : Nat) (sp dp m : Int) : zAI := fun c i => if c = b ∧ dp ≤ i ∧ i < dp + m then AI a (sp + (i - dp)) else AI c i
theorem zv_copyI (C : zCx M Post G) {i a b N1 N2 : Nat} {sp dp mm : Int} (hd : decode M.2.1 pc = .ok (.invokestatic i, 3)) (hl0 : Cond.methodLink M.1.cls i arraycopyName ∈ zWs) (hn0 : Cond.native arraycopyName ∈ zWs) (hs0 : Cond.static arraycopyName ∈ zWs) (hi0 : Cond.initialized "java/lang/System" ∈ zWs) (hfr : 1 ≤ M.2.2.2.2.frames) (hlo : (st.map zcat).sum + (nativeFrameWords "java/lang/System" "arraycopy" 5 + 11) ≤ M.2.2.2.2.locals) (hTa : T a = (2, N1)) (hTb : T b = (2, N2)) (hab : a ≠ b) (g1 : 0 ≤ sp) (g2 : 0 ≤ dp) (g3 : 0 ≤ mm) (g4 : sp + mm ≤ N1) (g5 : dp + mm ≤ N2) (kk : zV G (pc + 3) ls st T FR AR FI (zcpA AI a b sp dp mm) k n) : zV G pc ls (zI mm :: zI dp :: zR b :: zI sp :: zR a :: st) T FR AR FI AI k n := by
  obtain ⟨p, l, e, R, s, m, args, below, meth, c, Q, A, D, cs, T0, ad0⟩ := G
  obtain ⟨hx, hb, hml, hr, hlk, hnm, hown, hts, hK, hA, hR, hQ, hSt, hfl⟩ := C
  intro ad H locs lsr hM hS hl h1 h2
  subst hR
  obtain ⟨L, hnd, hL, hP, hD, hrg, hT0⟩ := id hM
  have hoa : a ∈ L := (hL a).mpr (by simp [hTa])
  obtain ⟨q0, hq0⟩ := List.getElem?_of_mem hoa
  have hob : b ∈ L := (hL b).mpr (by simp [hTb])
  obtain ⟨q1, hq1⟩ := List.getElem?_of_mem hob
  have hea : (zWd cs ad T FR AR FI AI L)[q0]? = some (ad a, .inl (cs.1, N1, .inl fun j => Int32.ofInt (AI a (j : Int)))) := by rw [zWd, List.getElem?_map, hq0, ← zE_int hTa]; rfl
  have heb : (zWd cs ad T FR AR FI AI L)[q1]? = some (ad b, .inl (cs.1, N2, .inl fun j => Int32.ofInt (AI b (j : Int)))) := by rw [zWd, List.getElem?_map, hq1, ← zE_int hTb]; rfl
  have r1 : zr32 mm := zhd h2
  have r2 : zr32 dp := zhd (ztl h2)
  have r3 : zr32 sp := zhd (ztl (ztl (ztl h2)))
  have cl : ∀ x : Int, zr32 x → 0 ≤ x → ((Int32.ofInt x).toNatClampNeg : Int) = x := fun x hx9 h0 => by show (((Int32.ofInt x).toInt.toNat : Nat) : Int) = x; rw [z32 hx9]; exact Int.toNat_of_nonneg h0
  have nn : ∀ x : Int, zr32 x → 0 ≤ x → ¬ Int32.ofInt x < 0 := fun x hx9 h0 z => by rw [z32z, z32lt hx9 zr0] at z; omega
  have c1 := cl mm r1 g3
  have c2 := cl dp r2 g2
  have c3 := cl sp r3 g1
  have e9 : (zWd cs ad T FR AR FI AI L).set q1 (ad b, .inl (cs.1, N2, .inl (va_cpy (fun j => Int32.ofInt (AI a (j : Int))) (fun j => Int32.ofInt (AI b (j : Int))) (Int32.ofInt sp).toNatClampNeg (Int32.ofInt dp).toNatClampNeg (Int32.ofInt mm).toNatClampNeg))) = zWd cs ad T FR AR FI (zcpA AI a b sp dp mm) L := by
    have hg := zset (f := fun k => (ad k, zE cs ad T FR AR FI AI k)) (g := fun k => (ad k, zE cs ad T FR AR FI (zcpA AI a b sp dp mm) k)) hnd hq1 (fun j9 _ hj9 => by show (ad j9, _) = (ad j9, _); congr 1; simp [zE, zcpA, hj9])
    rw [zWd, zWd, ← hg]
    congr 3
    show Sum.inl _ = _
    rw [zE_int hTb]
    congr 3
    congr 1
    funext q9
    by_cases hq9 : (Int32.ofInt dp).toNatClampNeg ≤ q9 ∧ q9 < (Int32.ofInt dp).toNatClampNeg + (Int32.ofInt mm).toNatClampNeg
    · have hq8 : dp ≤ (q9 : Int) ∧ (q9 : Int) < dp + mm := by omega
      simp only [va_cpy, if_pos hq9, zcpA, hq8, and_self, if_true]
      congr 2
      omega
    · have hq8 : ¬ (dp ≤ (q9 : Int) ∧ (q9 : Int) < dp + mm) := by omega
      simp only [va_cpy, if_neg hq9, zcpA, hq8, and_false, if_false]
  refine va_copyi hx hb hl.1.symm hown (hts _ hl0) (hts _ hn0) (hts _ hs0) (hts _ hi0) hK hP hD hS q0 q1 0 0 hea heb (ty := .int) rfl rfl rfl (nn sp r3 g1) (nn dp r2 g2) (nn mm r1 g3) (by omega) (by omega) (fun _ _ => rfl) hfr (by rw [zsum]; exact hlo) hd (fun H1 locs1 hP1 hD1 hS1 => ?_)
  rw [e9] at hP1 hD1
  refine kk ad H1 locs1 lsr ⟨L, hnd, hL, hP1, hD1, ⟨hrg.1, fun k9 i9 h9 => ?_, hrg.2.2⟩, hT0⟩ hS1 hl h1 (ztl (ztl (ztl (ztl (ztl h2)))))
  by_cases hk9 : k9 = b ∧ dp ≤ i9 ∧ i9 < dp + mm
  · have g8 := hrg.2.1 a (sp + (i9 - dp)) (by simp [hTa])
    rw [hTa] at g8
    obtain ⟨r4, r5⟩ := hk9
    subst r4
    simp only [zcpA, r5, and_self, if_true, hTb]
    exact g8
  · simp only [zcpA, if_neg hk9]; exact hrg.2.1 k9 i9 h9
end ZCalls
