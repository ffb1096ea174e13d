/-! METHODS THAT RETURN OR THROW NoSuchElementException, over the abstract machine; methods with a table of their own -/
def zXC (XP : Prop) (A : Nat → Prop) (D : va_G) (cs : zCs) (T0 : zTt) (ad0 : Nat → Nat) (T : zTt) (FR : zFR) (AR : zAR) (FI : zFI) (AI : zAI) : String → State → State → Prop := fun E st t => E = "java/util/NoSuchElementException" ∧ XP ∧ (∃ ad, zM A D cs T0 ad0 ad T FR AR FI AI t.heap) ∧ va_F A st t
def zBX (as : List zVal) (D : va_G) (cs : zCs) (ad : Nat → Nat) (L : List Nat) (T : zTt) (FR : zFR) (AR : zAR) (FI : zFI) (AI : zAI) (sz : Nat) (U : State) : Prop := zB as D cs ad L T FR AR FI AI sz U ∧ zEx U
theorem zBX_blind {as : List zVal} {D : va_G} {cs : zCs} {ad : Nat → Nat} {L : List Nat} {T : zTt} {FR : zFR} {AR : zAR} {FI : zFI} {AI : zAI} {sz : Nat} : FrameBlind (va_Pc (as.map (zc ad)) (zBX as D cs ad L T FR AR FI AI sz)) := by
  intro a U g mk q
  obtain ⟨q0, q1, q2⟩ := q
  have b := zB_blind (as := as) (D := D) (cs := cs) (ad := ad) (L := L) (T := T) (FR := FR) (AR := AR) (FI := FI) (AI := AI) (sz := sz) a U g mk ⟨q0, q1⟩
  exact ⟨b.1, b.2, zEx.same (u := U) rfl q2⟩
def zXMet (M : zMd) (as : List zVal) (T : zTt) (FR : zFR) (AR : zAR) (FI : zFI) (AI : zAI) (Post : zPost) (XP : Prop) : Prop :=
  ∀ (l : Launch) (D : va_G) (cs : zCs) (ad : Nat → Nat) (L : List Nat) (sz : Nat), l.flags = flags0 → L.Nodup → (∀ k, k ∈ L ↔ (T k).1 ≠ 0) → zrg T FR AR FI AI → va_D (fun _ => True) (zWd cs ad T FR AR FI AI L) → (∀ v ∈ as, zok T v) →
    vx_Met l M.1 (zws M) M.2.2.2.2 (va_Pc (as.map (zc ad)) (zBX as D cs ad L T FR AR FI AI sz)) (zQ D cs T ad Post M.2.2.2.1 (va_A (zWd cs ad T FR AR FI AI L) sz)) (zXC XP (va_A (zWd cs ad T FR AR FI AI L) sz) D cs T ad T FR AR FI AI) M.2.2.2.2.cells M.2.2.2.2.slots (va_A (zWd cs ad T FR AR FI AI L) sz)
/-- what a body that may throw knows besides -/
def zTh (M : zMd) (Post : zPost) (XP : Prop) (T : zTt) (FR : zFR) (AR : zAR) (FI : zFI) (AI : zAI) (G : zG) : Prop := match G with
  | (_, _, _, _, s, _, args, below, _, c, Q, A, D, cs, T0, ad0) =>
    (∀ t, vx_MQ below (zQ D cs T0 ad0 Post M.2.2.2.1 A) (zXC XP A D cs T0 ad0 T FR AR FI AI) args s M.2.2.2.2.cells M.2.2.2.2.slots A t → Q t) ∧ (∀ x ∈ c.exceptionTable.toList, False) ∧ zEx s
theorem zXMet.of {M : zMd} {as : List zVal} {T : zTt} {FR : zFR} {AR : zAR} {FI : zFI} {AI : zAI} {Post : zPost} {XP : Prop} (ls : List (Option zVal)) (hy : plainName M.1.cls = true) (hn : Nat.ble (zent as).length M.2.2.1 = true) (hls : zent as ++ List.replicate (M.2.2.1 - (zent as).length) none = ls)
    (h : ∀ G, zCx M Post G → zTh M Post XP T FR AR FI AI G → zV G 0 ls [] T FR AR FI AI 0 0) : zXMet M as T FR AR FI AI Post XP := by
  intro l D cs ad L sz hfl hnd hL hrg hD0 hok
  refine vx_ofW (cc := M.2.1) (maxL := M.2.2.1) (ret := M.2.2.2.1) hy rfl ?_
  intro p e s m args below meth c s₁ B hml htab hv
  obtain ⟨rfl, ⟨hsz, hP, hK, hSt⟩, hEx⟩ := hv
  subst hsz
  have hts : ∀ w ∈ zWs, w.before (as.map (zc ad)).toArray s = true := fun w hw => atoms_spec (ws := zws M) B.pre w (List.mem_cons_of_mem _ hw)
  have hA : ∀ q : Nat, s.heap.size ≤ q → va_A (zWd cs ad T FR AR FI AI L) s.heap.size q := fun q h => Or.inr h
  have C : zCx M Post (p, l, e, M.2.2.2.2, s, m, (as.map (zc ad)).toArray, below, meth, c, vx_MQ below (zQ D cs T ad Post M.2.2.2.1 (va_A (zWd cs ad T FR AR FI AI L) s.heap.size)) (zXC XP (va_A (zWd cs ad T FR AR FI AI L) s.heap.size) D cs T ad T FR AR FI AI) (as.map (zc ad)).toArray s M.2.2.2.2.cells M.2.2.2.2.slots (va_A (zWd cs ad T FR AR FI AI L) s.heap.size), va_A (zWd cs ad T FR AR FI AI L) s.heap.size, D, cs, T, ad) :=
    ⟨B.exec, B.bytes, hml, B.returns, B.notSynchronized, (name_of_methodNamed B.named B.method).1, findClass_of_methodNamed B.named, hts, hK, hA, rfl, fun t ⟨o, b1, b2, b3, b4⟩ => ⟨o, b1, b2, Or.inl ⟨b3, b4⟩⟩, hSt, hfl⟩
  have hlen := zent_len ad as
  have hl := lv_entry (as.map (zc ad)) (n := M.2.2.1) (by rw [hlen]; exact Nat.le_of_ble_eq_true hn)
  rw [lg_entry_eq]
  rw [← zlv_ent ad (M.2.2.1 - (zent as).length) as 0, hls] at hl
  refine h _ C ⟨fun t h => h, htab, hEx⟩ ad s.heap [] _ ⟨L, hnd, hL, hP, hD0.self, hrg, ⟨fun k hk => ⟨hk, rfl⟩, fun _ => rfl⟩⟩ va_S.rf (by rw [hml]; exact hl) ?_ (fun v hv => nomatch hv)
  intro v hv
  rw [← hls] at hv
  exact zok_ent as _ hok v hv
section ZThrow
variable {M : zMd} {Post : zPost} {G : zG} {pc : Nat} {ls : List (Option zVal)} {st : List zVal} {T : zTt} {FR : zFR} {AR : zAR} {FI : zFI} {AI : zAI} {k n : Nat}
theorem zM_kept {A : Nat → Prop} {D : va_G} {cs : zCs} {T0 : zTt} {ad0 ad : Nat → Nat} {H H1 : Heap} (h : zM A D cs T0 ad0 ad T FR AR FI AI H) (hq : ∀ q : Nat, q < H.size → H1[q]? = H[q]?) : zM A D cs T0 ad0 ad T FR AR FI AI H1 := by
  obtain ⟨L, h1, h2, h3, h4⟩ := h
  exact ⟨L, h1, h2, h3.kept (fun k q hk => hq q.1 (vx_lt h3 hk)), h4⟩
theorem zv_throw (C : zCx M Post G) {XP : Prop} (X : zTh M Post XP T FR AR FI AI G) {is : Nat} {text : String} (hcls : M.1.cls = "DeferredDesk") (hq : (is, text) ∈ zXs) (d0 : decode M.2.1 pc = .ok (.new 104, 3)) (d3 : decode M.2.1 (pc + 3) = .ok (.dup, 1)) (d4 : decode M.2.1 (pc + 4) = .ok (.ldc is, 2)) (d6 : decode M.2.1 (pc + 6) = .ok (.invokespecial 108, 3)) (d9 : decode M.2.1 (pc + 9) = .ok (.athrow, 1)) (hfr : 5 < M.2.2.2.2.frames) (hlo : 82 ≤ M.2.2.2.2.locals) (hk : k + 1 ≤ M.2.2.2.2.cells) (hn : n + 6 ≤ M.2.2.2.2.slots) (hp : XP) : zV G pc ls [] T FR AR FI AI k n := by
  obtain ⟨p, l, e, R, s, m, args, below, meth, c, Q, A, D, cs, T0, ad0⟩ := G
  obtain ⟨hx, hb, hml, hr, hlk, hnm, hown, hts, hK, hA, hR, hQ, hSt, hfl⟩ := C
  obtain ⟨hX1, hX2, hX3⟩ := X
  intro ad H locs lsr hM hS hl h1 h2
  subst hR
  rw [hcls] at hown
  refine zWQ hX1 ?_
  exact vy_throw hx hb (flags0_off hfl) (own := "DeferredDesk") (cls := "java/util/NoSuchElementException") (Y0 := "java/lang/RuntimeException") (text := text) (names := ["java/lang/Exception"]) (ik := 104) (is := is) (ic := 108) (ix := 13) (rx := vy13) (by decide +kernel) (by decide +kernel) (by decide +kernel) (by decide +kernel) (by decide +kernel) hown (by decide +kernel) (by decide +kernel) (hts _ cl_X8_104) (hts _ ini_18) (hSt.2.1 (is, text) hq) (vyW_before hts hX3) (fun w hw => List.all_eq_true.mp vyW_ot w hw) hSt.1.2.2.2.2.1 hSt.1.2.2.2.2.2.1 hS hl.1 d0 d3 d4 d6 d9 (fun x hx => (hX2 x hx).elim) hfr (by simpa using hlo) hk hn hlk
    (fun t _ hz hkp => ⟨rfl, hp, ⟨ad, zM_kept hM hkp⟩, Nat.le_trans hS.1 hz, fun q g1 g2 => by rw [hkp q (Nat.lt_of_lt_of_le g1 hS.1)]; exact hS.2.1 q g1 g2⟩) hS.2.2 hk hn
/-- what a body with this table knows besides -/
def zHx (hh : List (Nat × Nat × Nat × Nat)) (G : zG) : Prop := match G with
  | (_, _, _, _, s, _, _, _, _, c, _, _, _, _, _, _) => zEx s ∧ c.exceptionTable.toList = tableOf hh
theorem zcoreX {p : Program} {l : Launch} {e : Env} {R : Room} {s : State} {m : MethodId} {args : Array Value} {below : List Frame} {meth : Method} {c : Code} {H : Heap} {locs : List Loc} {cells slots : Nat} {Q : State → Prop} {D : va_G} {cs : zCs} {ad : Nat → Nat} {Post : zPost} {ret : Option FieldType} {A A1 : Nat → Prop} {a : Array Value} {mc ms pc : Nat} {lsr : Array Slot} {st0 rest : List Value} {XP : Prop}
    (hr : vx_Run p l e R s m args below meth c H locs cells slots mc ms (F0 m pc lsr st0) rest (zQ D cs T ad Post ret A1 a) (zXC XP A1 D cs T ad T FR AR FI AI) A1) (hS : va_S A s.heap H locs) (hA : ∀ q, A1 q → A q)
    (kk : ∀ (r : zVal) (T' : zTt) (FR : zFR) (AR : zAR) (FI : zFI) (AI : zAI) (ad' : Nat → Nat) (H1 : Heap) (locs1 : List Loc), Post r T' FR AR FI AI → zM A1 D cs T ad ad' T' FR AR FI AI H1 → zok T' r → va_S A s.heap H1 locs1 → W p l e R s m args below meth c H1 locs1 (cells + mc) (slots + ms) Q (F0 m (pc + 3) lsr ((zret ret ad' r).toList ++ rest)))
    (kx : ∀ (q : Addr) (ce : Cell) (ad' : Nat → Nat) (H1 : Heap) (locs1 : List Loc), XP → zM A1 D cs T ad ad' T FR AR FI AI H1 → va_S A s.heap H1 locs1 → H1[q]? = some ce → ce.vm = .none → s.vm.findClass "java/util/NoSuchElementException" = some ce.cls → vx_W p l e R s m args below meth c H1 locs1 (cells + mc) (slots + ms) Q (F0 m pc lsr rest) q) :
    W p l e R s m args below meth c H locs cells slots Q (F0 m pc lsr st0) := by
  intro U hU X
  have key : ∀ (U' t : State) (L : List Loc), H.size ≤ t.heap.size → (∀ q : Nat, q < H.size → ¬ A1 q → t.heap[q]? = H[q]?) → U'.heap = t.heap → (∀ q ∈ L, A1 q.base) → va_S A s.heap U'.heap (locs ++ L) := fun U' t L hz hk e1 hL =>
    ⟨Nat.le_trans hS.1 (by rw [e1]; exact hz), fun q h1 h2 => by rw [e1, hk q (Nat.lt_of_lt_of_le h1 hS.1) (fun z => h2 (hA q z))]; exact hS.2.1 q h1 h2, fun q hq => by
      rcases List.mem_append.mp hq with h | h
      · exact hS.2.2 q h
      · exact hA _ (hL q h)⟩
  rcases hr U hU X with ⟨v, st₀, t, U', L, h0, X', hL, e1, e2, ⟨⟨r, T', FR', AR', FI', AI', ad', hv, hp, hM, ho⟩, hz, hk⟩, st⟩ | ⟨q, st₀, t, U', L, E, ce, h0, X', hL, e1, e2, ⟨hE, hxp, ⟨ad', hM⟩, hz, hk⟩, hce, hcv, hcl, st⟩
  · cases hv
    rw [h0] at hz hk
    obtain ⟨t2, a1, b1⟩ := kk r T' FR' AR' FI' AI' ad' U'.heap (locs ++ L) hp (by rw [e1]; exact hM) ho (key U' t L hz hk e1 hL) U' rfl X'
    exact ⟨t2, st t2 a1, b1⟩
  · subst hE
    rw [h0] at hz hk
    obtain ⟨t2, a1, b1⟩ := kx q ce ad' U'.heap (locs ++ L) hxp (by rw [e1]; exact hM) (key U' t L hz hk e1 hL) (by rw [e1]; exact hce) hcv hcl U' rfl X'
    exact ⟨t2, st.trans a1, b1⟩
theorem zg_callVX (C : zCx M Post G) (E : zHx [(0, 10, 13, 13)] G) {M' : zMd} {as : List zVal} {i o ci na : Nat} {XP : Prop} (hd : decode M.2.1 pc = .ok (.invokevirtual i, 3)) (hk : zMv M' na) (hl0 : Cond.methodLink M.1.cls i M'.1 ∈ zWs) (hT : T o = (1, ci)) (hci : (vwCl[ci]?).map (fun q => q.1) = some M'.1.cls) (hna : as.length = na) (hR9 : zRm M M') (hkc : k + M'.2.2.2.2.cells ≤ M.2.2.2.2.cells ∧ n + M'.2.2.2.2.slots ≤ M.2.2.2.2.slots) (hst : Nat.ble (st.map zcat).sum 8 = true)
    (hcov : covers ⟨0, 10, 13, 13⟩ pc = true) (hcl0 : Cond.classLink M.1.cls 13 "java/util/NoSuchElementException" ∈ zWs) (dh : decode M.2.1 13 = .ok (.astore 4, 2)) (h4 : Nat.blt 4 M.2.2.1 = true)
    (hm : zXMet M' (zR o :: as) T FR AR FI AI (fun r T FR AR FI AI => zV G (pc + 3) ls (zpush M'.2.2.2.1 r st) T FR AR FI AI (k + M'.2.2.2.2.cells) (n + M'.2.2.2.2.slots)) XP)
    (kx : XP → zV G 15 [] [] T FR AR FI AI (k + M'.2.2.2.2.cells) (n + M'.2.2.2.2.slots)) : zV G pc ls (as.reverse ++ zR o :: st) T FR AR FI AI k n := by
  obtain ⟨p, l, e, R, s, m, args, below, meth, c, Q, A, D, cs, T0, ad0⟩ := G
  obtain ⟨hx, hb, hml, hr, hlk, hnm, hown, hts, hK, hA, hR, hQ, hSt, hfl⟩ := C
  obtain ⟨hEx, htab⟩ := E
  intro ad H locs lsr hM hS hl h1 h2
  obtain ⟨L, hnd, hL, hP, hD, hrg, hT0⟩ := id hM
  subst hR
  have hs9 : ∀ v ∈ st, zok T v := fun v hv => h2 v (List.mem_append_right _ (List.mem_cons_of_mem _ hv))
  have ha9 : ∀ v ∈ zR o :: as, zok T v := fun v hv => by
    rcases List.mem_cons.mp hv with h | h
    · rw [h]; exact h2 _ (List.mem_append_right _ List.mem_cons_self)
    · exact h2 v (List.mem_append_left _ (List.mem_reverse.mpr h))
  have ho : o ∈ L := (hL o).mpr (by simp [hT])
  obtain ⟨q0, hq0⟩ := List.getElem?_of_mem ho
  have he : (zWd cs ad T FR AR FI AI L)[q0]? = some (ad o, .inr (ci, (List.range (znf ci)).map fun j => zfv ad FR FI o j (zty ci j))) := by rw [zWd, List.getElem?_map, hq0, ← zE_obj hT]; rfl
  obtain ⟨cq, hcq, hcn⟩ := Option.map_eq_some_iff.mp hci
  have hrv := va_recv hK hP hcq he
  rw [hcn] at hrv
  have hF := zfree hD hS hA
  refine zcoreX (mc := M'.2.2.2.2.cells) (ms := M'.2.2.2.2.slots) (ret := M'.2.2.2.1) (vx_runV (As := as.map (zc ad)) (rest := st.map (zc ad)) (b := ad o) (nL := M.2.2.1) ⟨hx, hb, hml, hown, hts⟩ (hm l D cs ad L H.size hfl hnd hL hrg (hD.weaken (fun _ _ _ _ => trivial)) ha9) ⟨⟨rfl, rfl, hR9.1, hR9.2, zws_pay hk.1.1 hts, List.mem_cons_self, hts _ hk.1.1, hts _ hk.1.2.1, hk.1.2.2.1, fun sig h => by have h2 := hk.1.2.2.2; rw [h] at h2; exact (Option.some.inj h2).symm, hts _ hl0⟩, hts _ hk.2.1, hts _ hk.2.2⟩ ⟨zBX_blind, hrv, fun U hU hW => ⟨rfl, ⟨by rw [hU], by rw [hU]; exact hP, va_K.moved hW.alike hK, ?_⟩, zEx.warm hW hEx⟩⟩ rfl (by rw [List.length_map]; exact hna) (hl.1.trans hml) ?_ ?_ hd hkc) hS hF (fun r T' FR' AR' FI' AI' ad' H1 locs1 hp hM1 ho hS1 => ?_) (fun q ce ad' H1 locs1 hxp hM1 hS1 hce hcv hcl => ?_)
  · rw [hU]; exact zSta.moved hW (by have h9 := ((hSt.kept hS.2.1).narrow (zfree hD hS hA)); have e9 : (fun i => ad0 (zb + i)) = fun i => ad (zb + i) := funext fun i => (hT0.2 i).symm; rw [e9] at h9; exact h9)
  · show (as.reverse ++ zR o :: st).map (zc ad) = (as.map (zc ad)).reverse ++ .ref (ad o) :: st.map (zc ad)
    rw [List.map_append, List.map_reverse]; rfl
  · exact lv_room (by rw [zsum]; exact Nat.le_of_ble_eq_true hst)
  · have hM2 := zM_up hM1 hF hT0
    obtain ⟨-, -, -, -, -, -, hT1⟩ := hM1
    have q1 : ∀ k, (T k).1 ≠ 0 → ad' k = ad k := fun k hk => (hT1.1 k hk).2
    have q2 : ∀ k, (T k).1 ≠ 0 → (T' k).1 ≠ 0 := fun k hk => (hT1.1 k hk).1
    have g := hp ad' H1 locs1 lsr hM2 hS1 (by rw [zlv_ext q1 hT1.2 ls 0 h1]; exact hl) (fun v hv => zok_ext q2 (h1 v hv)) (zpush_ok ho q2 hs9)
    rw [zpush_map q1 hT1.2 hs9] at g
    exact g
  · have hM2 := zM_up hM1 hF hT0
    refine vx_catch hown [] ⟨0, 10, 13, 13⟩ [] htab (fun z hz => nomatch hz) hcov (by decide) (hts _ hcl0) (va_Nw.use rfl hEx.1) hce hcv hcl ?_
    refine lv_astore hx hb dh hl (by rw [hml]; exact Nat.le_of_ble_eq_true h4) rfl (fun ls' hl' => ?_)
    exact kx hxp ad' H1 locs1 ls' hM2 hS1 (lv_sub hl' [] rfl) (fun v hv => nomatch hv) (fun v hv => nomatch hv)
end ZThrow
/-! methods with a table of their own, which return -/
def zwsH (M : zMd) (hh : List (Nat × Nat × Nat × Nat)) : List Cond := Cond.codeWith M.1 M.2.1 M.2.2.1 M.2.2.2.1 hh :: zWs
def zHMet (M : zMd) (hh : List (Nat × Nat × Nat × Nat)) (as : List zVal) (T : zTt) (FR : zFR) (AR : zAR) (FI : zFI) (AI : zAI) (Post : zPost) : Prop :=
  ∀ (l : Launch) (D : va_G) (cs : zCs) (ad : Nat → Nat) (L : List Nat) (sz : Nat), l.flags = flags0 → L.Nodup → (∀ k, k ∈ L ↔ (T k).1 ≠ 0) → zrg T FR AR FI AI → va_D (fun _ => True) (zWd cs ad T FR AR FI AI L) → (∀ v ∈ as, zok T v) →
    Met l M.1 (zwsH M hh) M.2.2.2.2 (va_Pc (as.map (zc ad)) (zBX as D cs ad L T FR AR FI AI sz)) (zQ D cs T ad Post M.2.2.2.1 (va_A (zWd cs ad T FR AR FI AI L) sz)) M.2.2.2.2.cells M.2.2.2.2.slots (va_A (zWd cs ad T FR AR FI AI L) sz)
theorem vz_ofWH {l : Launch} {y : MethodName} {ws ws' : List Cond} {rm : Room} {Pc : Array Value → State → Prop} {Qc : Array Value → State → Outcome → State → Prop} {mc ms : Nat} {free : Addr → Prop} {cc : ByteArray} {maxL : Nat} {ret : Option FieldType} {hh : List (Nat × Nat × Nat × Nat)}
    (hy : plainName y.cls = true) (hw : ws = Cond.codeWith y cc maxL ret hh :: ws')
    (body : ∀ p e s m args below meth c s₁, BodyLoose p l y (headSpec ws rm) cc maxL ret e s m args below meth c s₁ → c.maxLocals = maxL → Pc args s →
      W p l e (headSpec ws rm).room s m args below meth c s.heap [] 0 0 (MQ below Qc args s mc ms free) (entryFrame m args maxL)) : Met l y ws rm Pc Qc mc ms free := by
  refine MetFree.of_bodyS (code := cc) (maxLocals := maxL) (ret := ret) hy ?_ ?_
  · intro args s m h hn
    obtain ⟨m9, meth, c, hn9, h1, h2, h3, h4, -, h5, h6, -⟩ := Cond.codeWith_spec (atoms_spec (ws := ws) h _ (by rw [hw]; exact List.mem_cons_self))
    cases hn.symm.trans hn9
    exact ⟨meth, c, h1, h2, h3, h4, h5, h6⟩
  · intro p e s m args below meth c s₁ B hml hP _
    have hh0 : s₁.heap = s.heap := by rw [B.state]; rfl
    obtain ⟨t, a1, o, b1, b2, b3⟩ := body p e s m args below meth c s₁ B hml hP s₁ hh0 (Stand.of_body B)
    exact ⟨t, o, a1, b1, b2, ⟨b3.1, b3.2⟩⟩
theorem zHMet.of {M : zMd} {hh : List (Nat × Nat × Nat × Nat)} {as : List zVal} {T : zTt} {FR : zFR} {AR : zAR} {FI : zFI} {AI : zAI} {Post : zPost} (ls : List (Option zVal)) (hy : plainName M.1.cls = true) (hn : Nat.ble (zent as).length M.2.2.1 = true) (hls : zent as ++ List.replicate (M.2.2.1 - (zent as).length) none = ls)
    (h : ∀ G, zCx M Post G → zHx hh G → zV G 0 ls [] T FR AR FI AI 0 0) : zHMet M hh as T FR AR FI AI Post := by
  intro l D cs ad L sz hfl hnd hL hrg hD0 hok
  refine vz_ofWH (cc := M.2.1) (maxL := M.2.2.1) (ret := M.2.2.2.1) hy rfl ?_
  intro p e s m args below meth c s₁ B hml hv
  obtain ⟨rfl, ⟨hsz, hP, hK, hSt⟩, hEx⟩ := hv
  subst hsz
  have hts0 : ∀ w ∈ zwsH M hh, w.before (as.map (zc ad)).toArray s = true := atoms_spec (ws := zwsH M hh) B.pre
  have hts : ∀ w ∈ zWs, w.before (as.map (zc ad)).toArray s = true := fun w hw => hts0 w (List.mem_cons_of_mem _ hw)
  have hA : ∀ q : Nat, s.heap.size ≤ q → va_A (zWd cs ad T FR AR FI AI L) s.heap.size q := fun q h => Or.inr h
  have C : zCx M Post (p, l, e, M.2.2.2.2, s, m, (as.map (zc ad)).toArray, below, meth, c, MQ below (zQ D cs T ad Post M.2.2.2.1 (va_A (zWd cs ad T FR AR FI AI L) s.heap.size)) (as.map (zc ad)).toArray s M.2.2.2.2.cells M.2.2.2.2.slots (va_A (zWd cs ad T FR AR FI AI L) s.heap.size), va_A (zWd cs ad T FR AR FI AI L) s.heap.size, D, cs, T, ad) :=
    ⟨B.exec, B.bytes, hml, B.returns, B.notSynchronized, (name_of_methodNamed B.named B.method).1, findClass_of_methodNamed B.named, hts, hK, hA, rfl, fun t h => h, hSt, hfl⟩
  have hlen := zent_len ad as
  have hl := lv_entry (as.map (zc ad)) (n := M.2.2.1) (by rw [hlen]; exact Nat.le_of_ble_eq_true hn)
  rw [lg_entry_eq]
  rw [← zlv_ent ad (M.2.2.1 - (zent as).length) as 0, hls] at hl
  refine h _ C ⟨hEx, vx_table (x := M.1) B (hts0 _ List.mem_cons_self)⟩ ad s.heap [] _ ⟨L, hnd, hL, hP, hD0.self, hrg, ⟨fun k hk => ⟨hk, rfl⟩, fun _ => rfl⟩⟩ va_S.rf (by rw [hml]; exact hl) ?_ (fun v hv => nomatch hv)
  intro v hv
  rw [← hls] at hv
  exact zok_ent as _ hok v hv
def zMh (M : zMd) (hh : List (Nat × Nat × Nat × Nat)) (n : Nat) : Prop := Cond.codeWith M.1 M.2.1 M.2.2.1 M.2.2.2.1 hh ∈ zWs ∧ Cond.initialized M.1.cls ∈ zWs ∧ (M.1.cls ≠ "java/lang/invoke/MethodHandle" ∧ M.1.cls ≠ "java/lang/invoke/VarHandle") ∧ (parseMethodDescriptor M.1.desc).map (fun d => d.parameters.length) = some n ∧ Cond.static M.1 ∈ zWs
/-- what is carried at the frame that calls one -/
def zExs (G : zG) : Prop := match G with
  | (_, _, _, _, s, _, _, _, _, _, _, _, _, _, _, _) => zEx s
theorem zg_callSW {M : zMd} {Post : zPost} {G : zG} {pc : Nat} {ls : List (Option zVal)} {st : List zVal} {T : zTt} {FR : zFR} {AR : zAR} {FI : zFI} {AI : zAI} {k n : Nat} (C : zCx M Post G) (E : zExs G) {M' : zMd} {hh : List (Nat × Nat × Nat × Nat)} {as : List zVal} {i na : Nat} (hd : decode M.2.1 pc = .ok (.invokestatic i, 3)) (hk : zMh M' hh na) (hl0 : Cond.methodLink M.1.cls i M'.1 ∈ zWs) (hna : as.length = na) (hR9 : zRm M M') (hkc : k + M'.2.2.2.2.cells ≤ M.2.2.2.2.cells ∧ n + M'.2.2.2.2.slots ≤ M.2.2.2.2.slots) (hst : Nat.ble (st.map zcat).sum 8 = true) (hm : zHMet M' hh as T FR AR FI AI (fun r T FR AR FI AI => zV G (pc + 3) ls (zpush M'.2.2.2.1 r st) T FR AR FI AI (k + M'.2.2.2.2.cells) (n + M'.2.2.2.2.slots))) : zV G pc ls (as.reverse ++ st) T FR AR FI AI k n := by
  obtain ⟨p, l, e, R, s, m, args, below, meth, c, Q, A, D, cs, T0, ad0⟩ := G
  obtain ⟨hx, hb, hml, hr, hlk, hnm, hown, hts, hK, hA, hR, hQ, hSt, hfl⟩ := C
  have hEx : zEx s := E
  intro ad H locs lsr hM hS hl h1 h2
  obtain ⟨L, hnd, hL, hP, hD, hrg, hT0⟩ := id hM
  subst hR
  have hs9 : ∀ v ∈ st, zok T v := fun v hv => h2 v (List.mem_append_right _ hv)
  have ha9 : ∀ v ∈ as, zok T v := fun v hv => h2 v (List.mem_append_left _ (List.mem_reverse.mpr hv))
  have hpay : ∀ w ∈ zwsH M' hh, ∀ (a' : Array Value) (U : State), s.WarmedH U.vm → w.before a' U = true := by
    intro w hw a' U hW
    have hin : w ∈ zWs := by
      rcases List.mem_cons.mp hw with e | e
      · rw [e]; exact hk.1
      · exact e
    exact word_at hW (zWs_good w hin).2 (hts w hin)
  refine zback (ret := M'.2.2.2.1) (mc := M'.2.2.2.2.cells) (ms := M'.2.2.2.2.slots) hD hS hA hT0 hl h1 hs9 (vx_runSW (hh := hh) (As := as.map (zc ad)) (rest := st.map (zc ad)) (nL := M.2.2.1) ⟨hx, hb, hml, hown, hts⟩ (hm l D cs ad L H.size hfl hnd hL hrg (hD.weaken (fun _ _ _ _ => trivial)) ha9) ⟨⟨rfl, rfl, hR9.1, hR9.2, hpay, List.mem_cons_self⟩, hts _ hk.1, hts _ hk.2.1, hk.2.2.1, fun sig h => by have h2 := hk.2.2.2.1; rw [h] at h2; exact (Option.some.inj h2).symm, hts _ hl0, hts _ hk.2.2.2.2⟩ ⟨zBX_blind, fun U hU hW => ⟨rfl, ⟨by rw [hU], by rw [hU]; exact hP, va_K.moved hW.alike hK, ?_⟩, zEx.warm hW hEx⟩⟩ rfl (by rw [List.length_map]; exact hna) (hl.1.trans hml) ?_ ?_ hd hkc)
  · rw [hU]; exact zSta.moved hW (by have h9 := ((hSt.kept hS.2.1).narrow (zfree hD hS hA)); have e9 : (fun i => ad0 (zb + i)) = fun i => ad (zb + i) := funext fun i => (hT0.2 i).symm; rw [e9] at h9; exact h9)
  · show (as.reverse ++ st).map (zc ad) = (as.map (zc ad)).reverse ++ st.map (zc ad)
    rw [List.map_append, List.map_reverse]
  · exact lv_room (by rw [zsum]; exact Nat.le_of_ble_eq_true hst)
