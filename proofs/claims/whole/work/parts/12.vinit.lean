section ZInit
variable {M : zMd} {Post : zPost} {G : zG} {pc : Nat} {ls : List (Option zVal)} {st : List zVal} {T : zTt} {FR : zFR} {AR : zAR} {FI : zFI} {AI : zAI} {k n : Nat}
/-- a constructor with arguments is called -/
theorem zg_callIa (C : zCx M Post G) {M' : zMd} {as : List zVal} {i o na : Nat} (hd : decode M.2.1 pc = .ok (.invokespecial i, 3)) (hk : zMi M' na) (hl0 : Cond.methodLink M.1.cls i M'.1 ∈ zWs) (hna : as.length = na) (hR9 : zRm M M') (hkc : k + M'.2.2.2.2.cells ≤ M.2.2.2.2.cells ∧ n + M'.2.2.2.2.slots ≤ M.2.2.2.2.slots) (hst : Nat.ble (st.map zcat).sum 8 = true) (hm : zMet M' (zR o :: as) T FR AR FI AI (fun r T FR AR FI AI => zV G (pc + 3) ls (zpush M'.2.2.2.1 r st) T FR AR FI AI (k + M'.2.2.2.2.cells) (n + M'.2.2.2.2.slots))) : zV G pc ls (as.reverse ++ zR o :: st) T FR AR FI AI k n := by
  obtain ⟨p, l, e, R, s, m, args, below, meth, c, Q, A, D, cs, T0, ad0⟩ := G
  obtain ⟨hx, hb, hml, hr, hlk, hnm, hown, hts, hK, hA, hR, hQ, hSt, hfl⟩ := C
  intro ad H locs lsr hM hS hl h1 h2
  obtain ⟨L, hnd, hL, hP, hD, hrg, hT0⟩ := id hM
  subst hR
  have hs9 : ∀ v ∈ st, zok T v := fun v hv => h2 v (List.mem_append_right _ (List.mem_cons_of_mem _ hv))
  have ha9 : ∀ v ∈ zR o :: as, zok T v := fun v hv => by
    rcases List.mem_cons.mp hv with h | h
    · rw [h]; exact h2 _ (List.mem_append_right _ List.mem_cons_self)
    · exact h2 v (List.mem_append_left _ (List.mem_reverse.mpr h))
  obtain ⟨y', c', L', r', R'⟩ := M'
  have hret : r' = none := hk.2.2.2
  subst hret
  refine zback (ret := none) (mc := R'.cells) (ms := R'.slots) hD hS hA hT0 hl h1 hs9 (va_runI (As := as.map (zc ad)) (rest := st.map (zc ad)) (b := ad o) (nL := M.2.2.1) ⟨hx, hb, hml, hown, hts⟩ (hm l D cs ad L H.size hfl hnd hL hrg (hD.weaken (fun _ _ _ _ => trivial)) ha9) ⟨⟨rfl, rfl, hR9.1, hR9.2, zws_pay hk.1.1 hts, List.mem_cons_self, hts _ hk.1.1, hts _ hk.1.2.1, hk.1.2.2.1, fun sig h => by have h2 := hk.1.2.2.2; rw [h] at h2; exact (Option.some.inj h2).symm, hts _ hl0⟩, hk.2.2.1, hts _ hk.2.1⟩ ⟨zB_blind, fun U hU hW => ⟨rfl, by rw [hU], by rw [hU]; exact hP, va_K.moved hW.alike hK, ?_⟩⟩ rfl (by rw [List.length_map]; exact hna) (hl.1.trans hml) ?_ ?_ hd hkc)
  · rw [hU]; exact zSta.moved hW (by have h9 := ((hSt.kept hS.2.1).narrow (zfree hD hS hA)); have e9 : (fun i => ad0 (zb + i)) = fun i => ad (zb + i) := funext fun i => (hT0.2 i).symm; rw [e9] at h9; exact h9)
  · show (as.reverse ++ zR o :: st).map (zc ad) = (as.map (zc ad)).reverse ++ .ref (ad o) :: st.map (zc ad)
    rw [List.map_append, List.map_reverse]; rfl
  · exact lv_room (by rw [zsum]; exact Nat.le_of_ble_eq_true hst)
theorem zv_cIn_1 (C : zCx M Post G) {M' : zMd} {x1 : zVal} {i o : Nat} (hd : decode M.2.1 pc = .ok (.invokespecial i, 3)) (hk : zMi M' 1) (hl0 : Cond.methodLink M.1.cls i M'.1 ∈ zWs) (hR9 : zRm M M') (k' n' : Nat) (h0 : k + M'.2.2.2.2.cells = k' ∧ n + M'.2.2.2.2.slots = n') (hkc : k' ≤ M.2.2.2.2.cells ∧ n' ≤ M.2.2.2.2.slots) (hst : Nat.ble (st.map zcat).sum 8 = true) (hret : M'.2.2.2.1 = none) (hm : zMet M' (zR o :: [x1]) T FR AR FI AI (fun r T FR AR FI AI => zV G (pc + 3) ls st T FR AR FI AI k' n')) : zV G pc ls (x1 :: zR o :: st) T FR AR FI AI k n := zg_callIa C (as := [x1]) hd hk hl0 rfl hR9 (by rw [h0.1, h0.2]; exact hkc) hst (by rw [hret, h0.1, h0.2]; exact hm)
end ZInit
