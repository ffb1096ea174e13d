theorem zc_ext {T : zTt} {ad ad' : Nat → Nat} (h : ∀ k, (T k).1 ≠ 0 → ad' k = ad k) (h' : ∀ i, ad' (zb + i) = ad (zb + i)) {v : zVal} (hv : zok T v) : zc ad' v = zc ad v := by
  rcases v with x | x | r | a
  · rfl
  · rfl
  · cases r with
    | none => rfl
    | some k => exact congrArg Value.ref (h k (hv k rfl))
  · exact congrArg Value.ref (h' a)
theorem zlv_ext {T : zTt} {ad ad' : Nat → Nat} (h : ∀ k, (T k).1 ≠ 0 → ad' k = ad k) (h' : ∀ i, ad' (zb + i) = ad (zb + i)) : ∀ (ls : List (Option zVal)) (i : Nat), (∀ v, some v ∈ ls → zok T v) → zlv ad' i ls = zlv ad i ls := by
  intro ls
  induction ls with
  | nil => intro i _; rfl
  | cons a r ih =>
    intro i hv
    have hr : ∀ v, some v ∈ r → zok T v := fun v hm => hv v (List.mem_cons_of_mem _ hm)
    cases a with
    | none => exact ih (i + 1) hr
    | some w =>
      show (i, zc ad' w) :: zlv ad' (i + 1) r = (i, zc ad w) :: zlv ad (i + 1) r
      rw [ih (i + 1) hr, zc_ext h h' (hv w List.mem_cons_self)]
theorem zst_ext {T : zTt} {ad ad' : Nat → Nat} (h : ∀ k, (T k).1 ≠ 0 → ad' k = ad k) (h' : ∀ i, ad' (zb + i) = ad (zb + i)) (st : List zVal) (hv : ∀ v ∈ st, zok T v) : st.map (zc ad') = st.map (zc ad) := List.map_congr_left fun v hm => zc_ext h h' (hv v hm)
theorem zok_ext {T T' : zTt} (h : ∀ k, (T k).1 ≠ 0 → (T' k).1 ≠ 0) {v : zVal} (hv : zok T v) : zok T' v := by
  rcases v with x | x | r | a
  · exact hv
  · exact hv
  · exact fun k hk => h k (hv k hk)
  · trivial
theorem zlv_ent (ad : Nat → Nat) (k : Nat) : ∀ (as : List zVal) (i : Nat), zlv ad i (zent as ++ List.replicate k none) = lv_args i (as.map (zc ad)) := by
  intro as
  induction as with
  | nil =>
    intro i
    show zlv ad i (List.replicate k none) = []
    induction k generalizing i with
    | zero => rfl
    | succ k ih => exact ih (i + 1)
  | cons v r ih =>
    intro i
    rcases v with x | x | q | a
    · exact congrArg (List.cons _) (ih (i + 1))
    · exact congrArg (List.cons _) (ih (i + 2))
    · have hc : (zc ad (zP q)).category = 1 := zcat_ok ad _
      show (i, zc ad (zP q)) :: zlv ad (i + 1) (zent r ++ List.replicate k none) = (i, zc ad (zP q)) :: lv_args (if (zc ad (zP q)).category = 2 then i + 2 else i + 1) (r.map (zc ad))
      rw [hc, if_neg (by decide), ih (i + 1)]
    · exact congrArg (List.cons _) (ih (i + 1))
theorem zent_len (ad : Nat → Nat) : ∀ as : List zVal, (lg_sl (as.map (zc ad))).length = (zent as).length := by
  intro as
  induction as with
  | nil => rfl
  | cons v r ih =>
    have e : lg_sl ((v :: r).map (zc ad)) = (if (zc ad v).category = 2 then [.val (zc ad v), .second] else [.val (zc ad v)]) ++ lg_sl (r.map (zc ad)) := rfl
    rw [e, List.length_append, ih, zcat_ok]
    rcases v with x | x | q | a
    · show 1 + _ = _; simp [zent]; omega
    · show 2 + _ = _; simp [zent]; omega
    · show 1 + _ = _; simp [zent]; omega
    · show 1 + _ = _; simp [zent]; omega
theorem zok_ent {T : zTt} : ∀ (as : List zVal) (k : Nat), (∀ v ∈ as, zok T v) → ∀ v, some v ∈ zent as ++ List.replicate k none → zok T v := by
  intro as
  induction as with
  | nil =>
    intro k _ v hv
    have h1 : some v ∈ List.replicate k (none : Option zVal) := hv
    have := (List.mem_replicate.mp h1).2
    cases this
  | cons w r ih =>
    intro k h v hv
    have hr := ih k (fun v hm => h v (List.mem_cons_of_mem _ hm)) v
    rcases w with x | x | q | a
    · rcases List.mem_cons.mp (show some v ∈ some (zI x) :: (zent r ++ List.replicate k none) from hv) with e | e
      · cases e; exact h _ List.mem_cons_self
      · exact hr e
    · rcases List.mem_cons.mp (show some v ∈ some (zL x) :: none :: (zent r ++ List.replicate k none) from hv) with e | e
      · cases e; exact h _ List.mem_cons_self
      · rcases List.mem_cons.mp e with e | e
        · cases e
        · exact hr e
    · rcases List.mem_cons.mp (show some v ∈ some (zP q) :: (zent r ++ List.replicate k none) from hv) with e | e
      · cases e; exact h _ List.mem_cons_self
      · exact hr e
    · rcases List.mem_cons.mp (show some v ∈ some (zA a) :: (zent r ++ List.replicate k none) from hv) with e | e
      · cases e; exact h _ List.mem_cons_self
      · exact hr e
/-- THE HEAD OF A METHOD -/
theorem zMet.of {M : zMd} {as : List zVal} {T : zTt} {FR : zFR} {AR : zAR} {FI : zFI} {AI : zAI} {Post : zPost} (ls : List (Option zVal)) (hy : plainName M.1.cls = true) (hn : Nat.ble (zent as).length M.2.2.1 = true) (hls : zent as ++ List.replicate (M.2.2.1 - (zent as).length) none = ls)
    (h : ∀ G, zCx M Post G → zV G 0 ls [] T FR AR FI AI 0 0) : zMet M as T FR AR FI AI Post := by
  intro l D cs ad L sz hfl hnd hL hrg hD0 hok
  refine Met.ofW (cc := M.2.1) (maxL := M.2.2.1) (ret := M.2.2.2.1) hy rfl ?_
  intro p e s m args below meth c s₁ B hml hv
  obtain ⟨rfl, hsz, hP, hK, hSt⟩ := hv
  subst hsz
  have hts : ∀ w ∈ zWs, w.before (as.map (zc ad)).toArray s = true := fun w hw => atoms_spec (ws := zws M) B.pre w (List.mem_cons_of_mem _ hw)
  have hA : ∀ q : Nat, s.heap.size ≤ q → va_A (zWd cs ad T FR AR FI AI L) s.heap.size q := fun q h => Or.inr h
  have C : zCx M Post (p, l, e, M.2.2.2.2, s, m, (as.map (zc ad)).toArray, below, meth, c, MQ below (zQ D cs T ad Post M.2.2.2.1 (va_A (zWd cs ad T FR AR FI AI L) s.heap.size)) (as.map (zc ad)).toArray s M.2.2.2.2.cells M.2.2.2.2.slots (va_A (zWd cs ad T FR AR FI AI L) s.heap.size), va_A (zWd cs ad T FR AR FI AI L) s.heap.size, D, cs, T, ad) :=
    ⟨B.exec, B.bytes, hml, B.returns, B.notSynchronized, (name_of_methodNamed B.named B.method).1, findClass_of_methodNamed B.named, hts, hK, hA, rfl, fun t h => h, hSt, hfl⟩
  have hlen := zent_len ad as
  have hl := lv_entry (as.map (zc ad)) (n := M.2.2.1) (by rw [hlen]; exact Nat.le_of_ble_eq_true hn)
  rw [lg_entry_eq]
  rw [← zlv_ent ad (M.2.2.1 - (zent as).length) as 0, hls] at hl
  refine h _ C ad s.heap [] _ ⟨L, hnd, hL, hP, hD0.self, hrg, ⟨fun k hk => ⟨hk, rfl⟩, fun _ => rfl⟩⟩ va_S.rf (by rw [hml]; exact hl) ?_ (fun v hv => nomatch hv)
  intro v hv
  rw [← hls] at hv
  exact zok_ent as _ hok v hv
section ZCall
variable {p : Program} {l : Launch} {e : Env} {R : Room} {s : State} {m : MethodId} {args : Array Value} {below : List Frame} {meth : Method} {c : Code} {H : Heap} {locs : List Loc} {cells slots : Nat} {Q : State → Prop}
theorem zcore_call {D : va_G} {cs : zCs} {T : zTt} {ad : Nat → Nat} {Post : zPost} {ret : Option FieldType} {A A1 : Nat → Prop} {a : Array Value} {mc ms pc : Nat} {lsr : Array Slot} {st0 rest : List Value}
    (hr : va_Run p l e R s m args below meth c H locs cells slots mc ms (F0 m pc lsr st0) rest (zQ D cs T ad Post ret A1 a) A1) (hS : va_S A s.heap H locs) (hA : ∀ q, A1 q → A q)
    (kk : ∀ (r : zVal) (T' : zTt) (FR : zFR) (AR : zAR) (FI : zFI) (AI : zAI) (ad' : Nat → Nat) (H1 : Heap) (locs1 : List Loc), Post r T' FR AR FI AI → zM A1 D cs T ad ad' T' FR AR FI AI H1 → zok T' r → va_S A s.heap H1 locs1 → W p l e R s m args below meth c H1 locs1 (cells + mc) (slots + ms) Q (F0 m (pc + 3) lsr ((zret ret ad' r).toList ++ rest))) :
    W p l e R s m args below meth c H locs cells slots Q (F0 m pc lsr st0) := by
  intro U hU X
  obtain ⟨v, st₀, t, U', L, h0, X', hL, e1, e2, ⟨⟨r, T', FR, AR, FI, AI, ad', hv, hp, hM, ho⟩, hz, hk⟩, st⟩ := hr U hU X
  cases hv
  rw [h0] at hz hk
  obtain ⟨t2, a1, b1⟩ := kk r T' FR AR FI AI ad' U'.heap (locs ++ L) hp (by rw [e1]; exact hM) ho
    ⟨Nat.le_trans hS.1 (by rw [e1]; exact hz), fun q h1 h2 => by rw [e1, hk q (Nat.lt_of_lt_of_le h1 hS.1) (fun z => h2 (hA q z))]; exact hS.2.1 q h1 h2, fun q hq => by
      rcases List.mem_append.mp hq with h | h
      · exact hS.2.2 q h
      · exact hA _ (hL q h)⟩ U' rfl X'
  exact ⟨t2, st t2 a1, b1⟩
end ZCall
theorem zM_up {A A1 : Nat → Prop} {D : va_G} {cs : zCs} {T0 T T' : zTt} {ad0 ad ad' : Nat → Nat} {FR : zFR} {AR : zAR} {FI : zFI} {AI : zAI} {H : Heap} (h : zM A1 D cs T ad ad' T' FR AR FI AI H) (hA : ∀ q, A1 q → A q) (h0 : (∀ k, (T0 k).1 ≠ 0 → (T k).1 ≠ 0 ∧ ad k = ad0 k) ∧ ∀ i, ad (zb + i) = ad0 (zb + i)) : zM A D cs T0 ad0 ad' T' FR AR FI AI H := by
  obtain ⟨L, h1, h2, h3, h4, h5, h6⟩ := h
  refine ⟨L, h1, h2, h3, h4.weaken (fun _ _ _ z => hA _ z), h5, fun k hk => ?_, fun i => (h6.2 i).trans (h0.2 i)⟩
  obtain ⟨a1, a2⟩ := h0.1 k hk
  obtain ⟨b1, b2⟩ := h6.1 k a1
  exact ⟨b1, b2.trans a2⟩
/-- what the tables say of a method that is called -/
def zMk (M : zMd) (n : Nat) : Prop := Cond.code M.1 M.2.1 M.2.2.1 M.2.2.2.1 ∈ zWs ∧ Cond.initialized M.1.cls ∈ zWs ∧ (M.1.cls ≠ "java/lang/invoke/MethodHandle" ∧ M.1.cls ≠ "java/lang/invoke/VarHandle") ∧ (parseMethodDescriptor M.1.desc).map (fun d => d.parameters.length) = some n
theorem zws_pay {M : zMd} {args : Array Value} {s : State} (hk : Cond.code M.1 M.2.1 M.2.2.1 M.2.2.2.1 ∈ zWs) (hts : ∀ w ∈ zWs, w.before args s = true) : ∀ w ∈ zws M, ∀ (a' : Array Value) (U : State), s.WarmedH U.vm → w.before a' U = true := by
  intro w hw a' U hW
  have hin : w ∈ zWs := by
    rcases List.mem_cons.mp hw with e | e
    · rw [e]; exact hk
    · exact e
  exact word_at hW (zWs_good w hin).2 (hts w hin)
/-- the room that a callee asks -/
abbrev zRm (M M' : zMd) : Prop := M'.2.2.2.2.frames + 1 ≤ M.2.2.2.2.frames ∧ 8 + (M'.2.2.1 + 11) + M'.2.2.2.2.locals ≤ M.2.2.2.2.locals
theorem zB_blind {as : List zVal} {D : va_G} {cs : zCs} {ad : Nat → Nat} {L : List Nat} {T : zTt} {FR : zFR} {AR : zAR} {FI : zFI} {AI : zAI} {sz : Nat} : FrameBlind (va_Pc (as.map (zc ad)) (zB as D cs ad L T FR AR FI AI sz)) := by
  intro a U g mk q
  obtain ⟨q0, q1, qP, qK, qS⟩ := q
  exact ⟨q0, q1, qP, va_K.moved (u := U) (U := U.calling g mk a) (Vm.Alike.refl U.vm) qK, qS.calling⟩
theorem zfree {A : Nat → Prop} {ws : va_W} {H0 H : Heap} {locs : List Loc} (hD : va_D A ws) (hS : va_S A H0 H locs) (hA : ∀ q, H0.size ≤ q → A q) : ∀ q, va_A ws H.size q → A q := by
  intro q h
  rcases h with ⟨k, e, h⟩ | h
  · exact hD.2 k (q, e) h
  · exact hA q (Nat.le_trans hS.1 h)
