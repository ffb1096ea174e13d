section ZRows
variable {M : zMd} {Post : zPost} {G : zG} {pc : Nat} {ls : List (Option zVal)} {st : List zVal} {T : zTt} {FR : zFR} {AR : zAR} {FI : zFI} {AI : zAI} {k n : Nat}
theorem zcons {v : zVal} (h : zok T v) (hs : ∀ w ∈ st, zok T w) : ∀ w ∈ v :: st, zok T w := List.forall_mem_cons.mpr ⟨h, hs⟩
theorem zhd {v : zVal} (h : ∀ w ∈ v :: st, zok T w) : zok T v := h v List.mem_cons_self
theorem ztl {v : zVal} (h : ∀ w ∈ v :: st, zok T w) : ∀ w ∈ st, zok T w := fun w hw => h w (List.mem_cons_of_mem _ hw)
theorem z32 {x : Int} (h : zr32 x) : (Int32.ofInt x).toInt = x := Int32.toInt_ofInt_of_le (by have := h.1; omega) (by have := h.2; omega)
theorem z64 {x : Int} (h : zr64 x) : (Int64.ofInt x).toInt = x := Int64.toInt_ofInt_of_le (by have := h.1; omega) (by have := h.2; omega)
theorem z32lt {x y : Int} (hx : zr32 x) (hy : zr32 y) : Int32.ofInt x < Int32.ofInt y ↔ x < y := by rw [Int32.lt_iff_toInt_lt, z32 hx, z32 hy]
theorem z32le {x y : Int} (hx : zr32 x) (hy : zr32 y) : Int32.ofInt x ≤ Int32.ofInt y ↔ x ≤ y := by rw [Int32.le_iff_toInt_le, z32 hx, z32 hy]
theorem z32eq {x y : Int} (hx : zr32 x) (hy : zr32 y) : Int32.ofInt x = Int32.ofInt y ↔ x = y := by rw [← Int32.toInt_inj, z32 hx, z32 hy]
theorem z32z : (0 : Int32) = Int32.ofInt 0 := rfl
theorem zr0 : zr32 0 := ⟨by decide, by decide⟩
theorem zlvat {ad : Nat → Nat} {lsr : Array Slot} {nL i : Nat} {v : zVal} (hl : lv_has lsr nL (zlv ad 0 ls)) (h : ls[i]? = some (some v)) : lsr[i]? = some (.val (zc ad v)) := hl.2.2 (i, zc ad v) ((zlv_mem ad ls 0 _).mpr ⟨i, v, h, by simp⟩)
theorem zlook {v : zVal} {i : Nat} (h1 : ∀ v, some v ∈ ls → zok T v) (h : ls[i]? = some (some v)) : zok T v := h1 v (List.mem_of_getElem? h)
theorem zv_iconst (C : zCx M Post G) {x : Int} (hd : decode M.2.1 pc = .ok (.iconst x, 1)) (hv : decide (zr32 x) = true) (kk : zV G (pc + 1) ls (zI x :: st) T FR AR FI AI k n) : zV G pc ls st T FR AR FI AI k n := by
  obtain ⟨p, l, e, R, s, m, args, below, meth, c, Q, A, D, cs, T0, ad0⟩ := G
  obtain ⟨hx, hb, hml, hr, hlk, hnm, hown, hts, hK, hA, hR, hQ, hSt, hfl⟩ := C
  intro ad H locs lsr hM hS hl h1 h2
  exact lv_iconst hx hb hd rfl (kk ad H locs lsr hM hS hl h1 (zcons (show zr32 x from of_decide_eq_true hv) h2))
theorem zv_bipush (C : zCx M Post G) {x : Int} (hd : decode M.2.1 pc = .ok (.bipush x, 2)) (hv : (decide (zr32 x) && decide ((Int8.ofInt x).toInt32 = Int32.ofInt x)) = true) (kk : zV G (pc + 2) ls (zI x :: st) T FR AR FI AI k n) : zV G pc ls st T FR AR FI AI k n := by
  obtain ⟨p, l, e, R, s, m, args, below, meth, c, Q, A, D, cs, T0, ad0⟩ := G
  obtain ⟨hx, hb, hml, hr, hlk, hnm, hown, hts, hK, hA, hR, hQ, hSt, hfl⟩ := C
  intro ad H locs lsr hM hS hl h1 h2
  rw [Bool.and_eq_true] at hv
  exact lv_bipush hx hb hd (of_decide_eq_true hv.2) (kk ad H locs lsr hM hS hl h1 (zcons (show zr32 x from of_decide_eq_true hv.1) h2))
theorem zv_sipush (C : zCx M Post G) {x : Int} (hd : decode M.2.1 pc = .ok (.sipush x, 3)) (hv : (decide (zr32 x) && decide ((Int16.ofInt x).toInt32 = Int32.ofInt x)) = true) (kk : zV G (pc + 3) ls (zI x :: st) T FR AR FI AI k n) : zV G pc ls st T FR AR FI AI k n := by
  obtain ⟨p, l, e, R, s, m, args, below, meth, c, Q, A, D, cs, T0, ad0⟩ := G
  obtain ⟨hx, hb, hml, hr, hlk, hnm, hown, hts, hK, hA, hR, hQ, hSt, hfl⟩ := C
  intro ad H locs lsr hM hS hl h1 h2
  rw [Bool.and_eq_true] at hv
  exact lv_sipush hx hb hd (of_decide_eq_true hv.2) (kk ad H locs lsr hM hS hl h1 (zcons (show zr32 x from of_decide_eq_true hv.1) h2))
theorem zv_ldc (C : zCx M Post G) {x : Int} {v : Int32} {i : Nat} (hd : decode M.2.1 pc = .ok (.ldc i, 2)) (hw : Cond.constant M.1.cls i v ∈ zWs) (hv : (decide (zr32 x) && decide (v = Int32.ofInt x)) = true) (kk : zV G (pc + 2) ls (zI x :: st) T FR AR FI AI k n) : zV G pc ls st T FR AR FI AI k n := by
  obtain ⟨p, l, e, R, s, m, args, below, meth, c, Q, A, D, cs, T0, ad0⟩ := G
  obtain ⟨hx, hb, hml, hr, hlk, hnm, hown, hts, hK, hA, hR, hQ, hSt, hfl⟩ := C
  intro ad H locs lsr hM hS hl h1 h2
  rw [Bool.and_eq_true] at hv
  have e2 : v = Int32.ofInt x := of_decide_eq_true hv.2
  subst e2
  exact lv_ldc hx hb hown (hts _ hw) hd (kk ad H locs lsr hM hS hl h1 (zcons (show zr32 x from of_decide_eq_true hv.1) h2))
theorem zv_ldc2 (C : zCx M Post G) {x : Int} {v : Int64} {i : Nat} (hd : decode M.2.1 pc = .ok (.ldc2_w i, 3)) (hw : Cond.constantLong M.1.cls i v ∈ zWs) (hv : (decide (zr64 x) && decide (v = Int64.ofInt x)) = true) (kk : zV G (pc + 3) ls (zL x :: st) T FR AR FI AI k n) : zV G pc ls st T FR AR FI AI k n := by
  obtain ⟨p, l, e, R, s, m, args, below, meth, c, Q, A, D, cs, T0, ad0⟩ := G
  obtain ⟨hx, hb, hml, hr, hlk, hnm, hown, hts, hK, hA, hR, hQ, hSt, hfl⟩ := C
  intro ad H locs lsr hM hS hl h1 h2
  rw [Bool.and_eq_true] at hv
  have e2 : v = Int64.ofInt x := of_decide_eq_true hv.2
  subst e2
  exact lv_ldc2 hx hb hown (hts _ hw) hd (kk ad H locs lsr hM hS hl h1 (zcons (show zr64 x from of_decide_eq_true hv.1) h2))
theorem zv_lconst (C : zCx M Post G) {f : Fin 2} {x : Int} (hd : decode M.2.1 pc = .ok (.lconst f, 1)) (hv : (decide (zr64 x) && decide (Int64.ofNat (f : Nat) = Int64.ofInt x)) = true) (kk : zV G (pc + 1) ls (zL x :: st) T FR AR FI AI k n) : zV G pc ls st T FR AR FI AI k n := by
  obtain ⟨p, l, e, R, s, m, args, below, meth, c, Q, A, D, cs, T0, ad0⟩ := G
  obtain ⟨hx, hb, hml, hr, hlk, hnm, hown, hts, hK, hA, hR, hQ, hSt, hfl⟩ := C
  intro ad H locs lsr hM hS hl h1 h2
  rw [Bool.and_eq_true] at hv
  exact lv_lconst hx hb hd (of_decide_eq_true hv.2) (kk ad H locs lsr hM hS hl h1 (zcons (show zr64 x from of_decide_eq_true hv.1) h2))
theorem zv_null (C : zCx M Post G) (hd : decode M.2.1 pc = .ok (.aconst_null, 1)) (kk : zV G (pc + 1) ls (zN :: st) T FR AR FI AI k n) : zV G pc ls st T FR AR FI AI k n := by
  obtain ⟨p, l, e, R, s, m, args, below, meth, c, Q, A, D, cs, T0, ad0⟩ := G
  obtain ⟨hx, hb, hml, hr, hlk, hnm, hown, hts, hK, hA, hR, hQ, hSt, hfl⟩ := C
  intro ad H locs lsr hM hS hl h1 h2
  exact lv_null hx hb hd (kk ad H locs lsr hM hS hl h1 (zcons (fun k h => nomatch h) h2))
theorem zv_iload_n (C : zCx M Post G) {f : Fin 4} {x : Int} (hd : decode M.2.1 pc = .ok (.iload_n f, 1)) (h0 : ls[(f : Nat)]? = some (some (zI x))) (kk : zV G (pc + 1) ls (zI x :: st) T FR AR FI AI k n) : zV G pc ls st T FR AR FI AI k n := by
  obtain ⟨p, l, e, R, s, m, args, below, meth, c, Q, A, D, cs, T0, ad0⟩ := G
  obtain ⟨hx, hb, hml, hr, hlk, hnm, hown, hts, hK, hA, hR, hQ, hSt, hfl⟩ := C
  intro ad H locs lsr hM hS hl h1 h2
  exact lv_iload_n hx hb hd rfl (zlvat hl h0) (kk ad H locs lsr hM hS hl h1 (zcons (zlook h1 h0) h2))
theorem zv_iload (C : zCx M Post G) {i : Nat} {x : Int} (hd : decode M.2.1 pc = .ok (.iload i, 2)) (h0 : ls[i]? = some (some (zI x))) (kk : zV G (pc + 2) ls (zI x :: st) T FR AR FI AI k n) : zV G pc ls st T FR AR FI AI k n := by
  obtain ⟨p, l, e, R, s, m, args, below, meth, c, Q, A, D, cs, T0, ad0⟩ := G
  obtain ⟨hx, hb, hml, hr, hlk, hnm, hown, hts, hK, hA, hR, hQ, hSt, hfl⟩ := C
  intro ad H locs lsr hM hS hl h1 h2
  exact lv_iload hx hb hd (zlvat hl h0) (kk ad H locs lsr hM hS hl h1 (zcons (zlook h1 h0) h2))
theorem zv_lload_n (C : zCx M Post G) {f : Fin 4} {x : Int} (hd : decode M.2.1 pc = .ok (.lload_n f, 1)) (h0 : ls[(f : Nat)]? = some (some (zL x))) (kk : zV G (pc + 1) ls (zL x :: st) T FR AR FI AI k n) : zV G pc ls st T FR AR FI AI k n := by
  obtain ⟨p, l, e, R, s, m, args, below, meth, c, Q, A, D, cs, T0, ad0⟩ := G
  obtain ⟨hx, hb, hml, hr, hlk, hnm, hown, hts, hK, hA, hR, hQ, hSt, hfl⟩ := C
  intro ad H locs lsr hM hS hl h1 h2
  exact lv_lload_n hx hb hd rfl (zlvat hl h0) (kk ad H locs lsr hM hS hl h1 (zcons (zlook h1 h0) h2))
def zrefq : zVal → Bool
  | .inr (.inr _) => true
  | _ => false
theorem zrefq_or (ad : Nat → Nat) {v : zVal} (h : zrefq v = true) : zc ad v = .null ∨ ∃ a, zc ad v = .ref a := by
  rcases v with x | x | r | a
  · cases h
  · cases h
  · cases r with
    | none => exact Or.inl rfl
    | some k => exact Or.inr ⟨_, rfl⟩
  · exact Or.inr ⟨_, rfl⟩
theorem zv_aload_n (C : zCx M Post G) {f : Fin 4} {v : zVal} (hd : decode M.2.1 pc = .ok (.aload_n f, 1)) (h0 : ls[(f : Nat)]? = some (some v)) (hq : zrefq v = true) (kk : zV G (pc + 1) ls (v :: st) T FR AR FI AI k n) : zV G pc ls st T FR AR FI AI k n := by
  obtain ⟨p, l, e, R, s, m, args, below, meth, c, Q, A, D, cs, T0, ad0⟩ := G
  obtain ⟨hx, hb, hml, hr, hlk, hnm, hown, hts, hK, hA, hR, hQ, hSt, hfl⟩ := C
  intro ad H locs lsr hM hS hl h1 h2
  have g := zlvat hl h0
  have kk' := kk ad H locs lsr hM hS hl h1 (zcons (zlook h1 h0) h2)
  rw [List.map_cons] at kk'
  rcases zrefq_or ad hq with e1 | ⟨a, e1⟩
  · rw [e1] at g kk'
    exact lv_aload_nN hx hb hd rfl g kk'
  · rw [e1] at g kk'
    exact lv_aload_n hx hb hd rfl g kk'
theorem zv_aload (C : zCx M Post G) {i : Nat} {v : zVal} (hd : decode M.2.1 pc = .ok (.aload i, 2)) (h0 : ls[i]? = some (some v)) (hq : zrefq v = true) (kk : zV G (pc + 2) ls (v :: st) T FR AR FI AI k n) : zV G pc ls st T FR AR FI AI k n := by
  obtain ⟨p, l, e, R, s, m, args, below, meth, c, Q, A, D, cs, T0, ad0⟩ := G
  obtain ⟨hx, hb, hml, hr, hlk, hnm, hown, hts, hK, hA, hR, hQ, hSt, hfl⟩ := C
  intro ad H locs lsr hM hS hl h1 h2
  have g := zlvat hl h0
  have kk' := kk ad H locs lsr hM hS hl h1 (zcons (zlook h1 h0) h2)
  rw [List.map_cons] at kk'
  rcases zrefq_or ad hq with e1 | ⟨a, e1⟩
  · rw [e1] at g kk'
    exact lv_aloadN hx hb hd g kk'
  · rw [e1] at g kk'
    exact lv_aload hx hb hd g kk'
def znl : Option zVal → Bool
  | some (.inr (.inl _)) => false
  | _ => true
theorem zstore {ad : Nat → Nat} {lsr' : Array Slot} {nL i : Nat} {v : zVal} (hv : zcat v = 1) (hp : ∀ j w, j + 1 = i → ls[j]? = some (some w) → zcat w = 1) (h : lv_has lsr' nL ((i, zc ad v) :: (zlv ad 0 ls).filter (fun q => !(q.1 == i) && !(q.1 + 1 == i && q.2.category == 2)))) : lv_has lsr' nL (zlv ad 0 (ls.set i (some v))) := by
  refine ⟨h.1, h.2.1, fun q hq => h.2.2 q ?_⟩
  obtain ⟨j, w, hj, e⟩ := (zlv_mem ad _ 0 q).mp hq
  subst e
  rw [Nat.zero_add]
  by_cases hji : i = j
  · subst hji
    rw [List.getElem?_set] at hj
    rw [if_pos rfl] at hj
    split at hj
    · cases hj; exact List.mem_cons_self
    · cases hj
  · rw [List.getElem?_set_ne hji] at hj
    refine List.mem_cons_of_mem _ (List.mem_filter.mpr ⟨(zlv_mem ad ls 0 _).mpr ⟨j, w, hj, by simp⟩, ?_⟩)
    have e1 : (j == i) = false := by simp; omega
    have e2 : (j + 1 == i && (zc ad w).category == 2) = false := by
      by_cases h2 : j + 1 = i
      · rw [zcat_ok, hp j w h2 hj]; simp
      · simp [h2]
    simp only [e1, e2]
    rfl
theorem zstore2 {ad : Nat → Nat} {lsr' : Array Slot} {nL i : Nat} {v : zVal} (hp : ∀ j w, j + 1 = i → ls[j]? = some (some w) → zcat w = 1) (h : lv_has lsr' nL ((i, zc ad v) :: (zlv ad 0 ls).filter (fun q => !(q.1 == i) && (!(q.1 == i + 1) && !(q.1 + 1 == i && q.2.category == 2))))) : lv_has lsr' nL (zlv ad 0 ((ls.set i (some v)).set (i + 1) none)) := by
  refine ⟨h.1, h.2.1, fun q hq => h.2.2 q ?_⟩
  obtain ⟨j, w, hj, e⟩ := (zlv_mem ad _ 0 q).mp hq
  subst e
  rw [Nat.zero_add]
  by_cases hj1 : i + 1 = j
  · subst hj1
    rw [List.getElem?_set, if_pos rfl] at hj
    split at hj <;> cases hj
  rw [List.getElem?_set_ne hj1] at hj
  by_cases hji : i = j
  · subst hji
    rw [List.getElem?_set] at hj
    rw [if_pos rfl] at hj
    split at hj
    · cases hj; exact List.mem_cons_self
    · cases hj
  · rw [List.getElem?_set_ne hji] at hj
    refine List.mem_cons_of_mem _ (List.mem_filter.mpr ⟨(zlv_mem ad ls 0 _).mpr ⟨j, w, hj, by simp⟩, ?_⟩)
    have e1 : (j == i) = false := by simp; omega
    have e3 : (j == i + 1) = false := by simp; omega
    have e2 : (j + 1 == i && (zc ad w).category == 2) = false := by
      by_cases h2 : j + 1 = i
      · rw [zcat_ok, hp j w h2 hj]; simp
      · simp [h2]
    simp only [e1, e2, e3]
    rfl
theorem zokset {i : Nat} {v : zVal} (h1 : ∀ v, some v ∈ ls → zok T v) (hv : zok T v) : ∀ w, some w ∈ ls.set i (some v) → zok T w := fun w hw => by
  rcases List.mem_or_eq_of_mem_set hw with h | h
  · exact h1 w h
  · cases h; exact hv
theorem zoksetN {i : Nat} (h1 : ∀ v, some v ∈ ls → zok T v) : ∀ w, some w ∈ ls.set i none → zok T w := fun w hw => by
  rcases List.mem_or_eq_of_mem_set hw with h | h
  · exact h1 w h
  · cases h
def zpl (ls : List (Option zVal)) (i : Nat) : Bool := match i with
  | 0 => true
  | j + 1 => match ls[j]? with
    | some (some v) => zcat v == 1
    | _ => true
theorem zpl_ok {i : Nat} (h : zpl ls i = true) : ∀ j w, j + 1 = i → ls[j]? = some (some w) → zcat w = 1 := fun j w hj hw => by
  subst hj
  simp only [zpl, hw] at h
  exact beq_iff_eq.mp h
theorem zg_istore_n (C : zCx M Post G) {f : Fin 4} {x : Int} (hd : decode M.2.1 pc = .ok (.istore_n f, 1)) (hi : Nat.blt (f : Nat) M.2.2.1 = true) (hp : zpl ls (f : Nat) = true) (kk : zV G (pc + 1) (ls.set (f : Nat) (some (zI x))) st T FR AR FI AI k n) : zV G pc ls (zI x :: st) T FR AR FI AI k n := by
  obtain ⟨p, l, e, R, s, m, args, below, meth, c, Q, A, D, cs, T0, ad0⟩ := G
  obtain ⟨hx, hb, hml, hr, hlk, hnm, hown, hts, hK, hA, hR, hQ, hSt, hfl⟩ := C
  intro ad H locs lsr hM hS hl h1 h2
  refine lv_istore_n hx hb hd rfl hl (by rw [hml]; exact Nat.le_of_ble_eq_true hi) rfl (fun ls' hl' => ?_)
  exact kk ad H locs ls' hM hS (zstore (v := zI x) rfl (zpl_ok hp) hl') (zokset h1 (zhd h2)) (ztl h2)
theorem zg_istore (C : zCx M Post G) {i : Nat} {x : Int} (hd : decode M.2.1 pc = .ok (.istore i, 2)) (hi : Nat.blt i M.2.2.1 = true) (hp : zpl ls i = true) (kk : zV G (pc + 2) (ls.set i (some (zI x))) st T FR AR FI AI k n) : zV G pc ls (zI x :: st) T FR AR FI AI k n := by
  obtain ⟨p, l, e, R, s, m, args, below, meth, c, Q, A, D, cs, T0, ad0⟩ := G
  obtain ⟨hx, hb, hml, hr, hlk, hnm, hown, hts, hK, hA, hR, hQ, hSt, hfl⟩ := C
  intro ad H locs lsr hM hS hl h1 h2
  refine lv_istore hx hb hd hl (by rw [hml]; exact Nat.le_of_ble_eq_true hi) rfl (fun ls' hl' => ?_)
  exact kk ad H locs ls' hM hS (zstore (v := zI x) rfl (zpl_ok hp) hl') (zokset h1 (zhd h2)) (ztl h2)
theorem zg_astore_n (C : zCx M Post G) {f : Fin 4} {v : zVal} (hd : decode M.2.1 pc = .ok (.astore_n f, 1)) (hi : Nat.blt (f : Nat) M.2.2.1 = true) (hp : zpl ls (f : Nat) = true) (hq : zrefq v = true) (kk : zV G (pc + 1) (ls.set (f : Nat) (some v)) st T FR AR FI AI k n) : zV G pc ls (v :: st) T FR AR FI AI k n := by
  obtain ⟨p, l, e, R, s, m, args, below, meth, c, Q, A, D, cs, T0, ad0⟩ := G
  obtain ⟨hx, hb, hml, hr, hlk, hnm, hown, hts, hK, hA, hR, hQ, hSt, hfl⟩ := C
  intro ad H locs lsr hM hS hl h1 h2
  have hc : zcat v = 1 := by rcases v with x | x | r | a <;> first | rfl | cases hq
  have go : ∀ ls', lv_has ls' c.maxLocals (((f : Nat), zc ad v) :: (zlv ad 0 ls).filter (fun q => !(q.1 == (f : Nat)) && !(q.1 + 1 == (f : Nat) && q.2.category == 2))) → W p l e R s m args below meth c H locs k n Q (F0 m (pc + 1) ls' (st.map (zc ad))) := fun ls' hl' => kk ad H locs ls' hM hS (zstore hc (zpl_ok hp) hl') (zokset h1 (zhd h2)) (ztl h2)
  rw [List.map_cons]
  rcases zrefq_or ad hq with e1 | ⟨a, e1⟩
  · rw [e1] at go ⊢
    exact lv_astore_nN hx hb hd rfl hl (by rw [hml]; exact Nat.le_of_ble_eq_true hi) rfl go
  · rw [e1] at go ⊢
    exact lv_astore_n hx hb hd rfl hl (by rw [hml]; exact Nat.le_of_ble_eq_true hi) rfl go
theorem zg_astore (C : zCx M Post G) {i : Nat} {v : zVal} (hd : decode M.2.1 pc = .ok (.astore i, 2)) (hi : Nat.blt i M.2.2.1 = true) (hp : zpl ls i = true) (hq : zrefq v = true) (kk : zV G (pc + 2) (ls.set i (some v)) st T FR AR FI AI k n) : zV G pc ls (v :: st) T FR AR FI AI k n := by
  obtain ⟨p, l, e, R, s, m, args, below, meth, c, Q, A, D, cs, T0, ad0⟩ := G
  obtain ⟨hx, hb, hml, hr, hlk, hnm, hown, hts, hK, hA, hR, hQ, hSt, hfl⟩ := C
  intro ad H locs lsr hM hS hl h1 h2
  have hc : zcat v = 1 := by rcases v with x | x | r | a <;> first | rfl | cases hq
  have go : ∀ ls', lv_has ls' c.maxLocals ((i, zc ad v) :: (zlv ad 0 ls).filter (fun q => !(q.1 == i) && !(q.1 + 1 == i && q.2.category == 2))) → W p l e R s m args below meth c H locs k n Q (F0 m (pc + 2) ls' (st.map (zc ad))) := fun ls' hl' => kk ad H locs ls' hM hS (zstore hc (zpl_ok hp) hl') (zokset h1 (zhd h2)) (ztl h2)
  rw [List.map_cons]
  rcases zrefq_or ad hq with e1 | ⟨a, e1⟩
  · rw [e1] at go ⊢
    exact lv_astoreN hx hb hd hl (by rw [hml]; exact Nat.le_of_ble_eq_true hi) rfl go
  · rw [e1] at go ⊢
    exact lv_astore hx hb hd hl (by rw [hml]; exact Nat.le_of_ble_eq_true hi) rfl go
theorem zg_lstore_n (C : zCx M Post G) {f : Fin 4} {x : Int} (hd : decode M.2.1 pc = .ok (.lstore_n f, 1)) (hi : Nat.blt ((f : Nat) + 1) M.2.2.1 = true) (hp : zpl ls (f : Nat) = true) (kk : zV G (pc + 1) ((ls.set (f : Nat) (some (zL x))).set ((f : Nat) + 1) none) st T FR AR FI AI k n) : zV G pc ls (zL x :: st) T FR AR FI AI k n := by
  obtain ⟨p, l, e, R, s, m, args, below, meth, c, Q, A, D, cs, T0, ad0⟩ := G
  obtain ⟨hx, hb, hml, hr, hlk, hnm, hown, hts, hK, hA, hR, hQ, hSt, hfl⟩ := C
  intro ad H locs lsr hM hS hl h1 h2
  refine lv_lstore_n hx hb hd rfl hl (by rw [hml]; exact Nat.le_of_ble_eq_true hi) rfl (fun ls' hl' => ?_)
  exact kk ad H locs ls' hM hS (zstore2 (v := zL x) (zpl_ok hp) hl') (zoksetN (zokset h1 (zhd h2))) (ztl h2)
theorem zg_iinc (C : zCx M Post G) {i : Nat} {x d : Int} (hd : decode M.2.1 pc = .ok (.iinc i d, 3)) (hi : Nat.blt i M.2.2.1 = true) (hp : zpl ls i = true) (h0 : ls[i]? = some (some (zI x))) (hr0 : zr32 (x + d)) (kk : zV G (pc + 3) (ls.set i (some (zI (x + d)))) st T FR AR FI AI k n) : zV G pc ls st T FR AR FI AI k n := by
  obtain ⟨p, l, e, R, s, m, args, below, meth, c, Q, A, D, cs, T0, ad0⟩ := G
  obtain ⟨hx, hb, hml, hr, hlk, hnm, hown, hts, hK, hA, hR, hQ, hSt, hfl⟩ := C
  intro ad H locs lsr hM hS hl h1 h2
  have hm := (zlv_mem ad ls 0 (i, zc ad (zI x))).mpr ⟨i, _, h0, by simp⟩
  obtain ⟨j, hj⟩ := List.getElem?_of_mem hm
  refine lv_iinc hx hb hd hl (k := j) (v := Int32.ofInt (x + d)) hj (by rw [Int32.ofInt_add]) (by rw [hml]; exact Nat.le_of_ble_eq_true hi) rfl (fun ls' hl' => ?_)
  exact kk ad H locs ls' hM hS (zstore (v := zI (x + d)) rfl (zpl_ok hp) hl') (zokset h1 hr0) h2
theorem zv_istore_0 (C : zCx M Post G) {a0 : Option zVal} {x : Int} (hd : decode M.2.1 pc = .ok (.istore_n (0 : Fin 4), 1)) (hi : Nat.blt 0 M.2.2.1 = true) (kk : zV G (pc + 1) (some (zI x) :: ls) st T FR AR FI AI k n) : zV G pc (a0 :: ls) (zI x :: st) T FR AR FI AI k n := zg_istore_n C hd hi rfl kk
theorem zv_astore_0 (C : zCx M Post G) {a0 : Option zVal} {v : zVal} (hd : decode M.2.1 pc = .ok (.astore_n (0 : Fin 4), 1)) (hi : Nat.blt 0 M.2.2.1 = true) (hq : zrefq v = true) (kk : zV G (pc + 1) (some v :: ls) st T FR AR FI AI k n) : zV G pc (a0 :: ls) (v :: st) T FR AR FI AI k n := zg_astore_n C hd hi rfl hq kk
theorem zv_iinc_0 (C : zCx M Post G) {x d : Int} (hd : decode M.2.1 pc = .ok (.iinc 0 d, 3)) (hi : Nat.blt 0 M.2.2.1 = true) (hr0 : zr32 (x + d)) (kk : zV G (pc + 3) (some (zI (x + d)) :: ls) st T FR AR FI AI k n) : zV G pc (some (zI x) :: ls) st T FR AR FI AI k n := zg_iinc C hd hi rfl rfl hr0 kk
theorem zv_lstore_0 (C : zCx M Post G) {a0 a1 : Option zVal} {x : Int} (hd : decode M.2.1 pc = .ok (.lstore_n (0 : Fin 4), 1)) (hi : Nat.blt (0 + 1) M.2.2.1 = true) (kk : zV G (pc + 1) (some (zL x) :: none :: ls) st T FR AR FI AI k n) : zV G pc (a0 :: a1 :: ls) (zL x :: st) T FR AR FI AI k n := zg_lstore_n C hd hi rfl kk
theorem zv_istore_1 (C : zCx M Post G) {a0 a1 : Option zVal} {x : Int} (hd : decode M.2.1 pc = .ok (.istore_n (1 : Fin 4), 1)) (hi : Nat.blt 1 M.2.2.1 = true) (hp : znl a0 = true) (kk : zV G (pc + 1) (a0 :: some (zI x) :: ls) st T FR AR FI AI k n) : zV G pc (a0 :: a1 :: ls) (zI x :: st) T FR AR FI AI k n := zg_istore_n C hd hi (by cases a0 with | none => rfl | some v => rcases v with x | x | r | a <;> first | rfl | cases hp) kk
theorem zv_astore_1 (C : zCx M Post G) {a0 a1 : Option zVal} {v : zVal} (hd : decode M.2.1 pc = .ok (.astore_n (1 : Fin 4), 1)) (hi : Nat.blt 1 M.2.2.1 = true) (hp : znl a0 = true) (hq : zrefq v = true) (kk : zV G (pc + 1) (a0 :: some v :: ls) st T FR AR FI AI k n) : zV G pc (a0 :: a1 :: ls) (v :: st) T FR AR FI AI k n := zg_astore_n C hd hi (by cases a0 with | none => rfl | some v => rcases v with x | x | r | a <;> first | rfl | cases hp) hq kk
theorem zv_iinc_1 (C : zCx M Post G) {a0 : Option zVal} {x d : Int} (hd : decode M.2.1 pc = .ok (.iinc 1 d, 3)) (hi : Nat.blt 1 M.2.2.1 = true) (hp : znl a0 = true) (hr0 : zr32 (x + d)) (kk : zV G (pc + 3) (a0 :: some (zI (x + d)) :: ls) st T FR AR FI AI k n) : zV G pc (a0 :: some (zI x) :: ls) st T FR AR FI AI k n := zg_iinc C hd hi (by cases a0 with | none => rfl | some v => rcases v with x | x | r | a <;> first | rfl | cases hp) rfl hr0 kk
theorem zv_lstore_1 (C : zCx M Post G) {a0 a1 a2 : Option zVal} {x : Int} (hd : decode M.2.1 pc = .ok (.lstore_n (1 : Fin 4), 1)) (hi : Nat.blt (1 + 1) M.2.2.1 = true) (hp : znl a0 = true) (kk : zV G (pc + 1) (a0 :: some (zL x) :: none :: ls) st T FR AR FI AI k n) : zV G pc (a0 :: a1 :: a2 :: ls) (zL x :: st) T FR AR FI AI k n := zg_lstore_n C hd hi (by cases a0 with | none => rfl | some v => rcases v with x | x | r | a <;> first | rfl | cases hp) kk
theorem zv_istore_2 (C : zCx M Post G) {a0 a1 a2 : Option zVal} {x : Int} (hd : decode M.2.1 pc = .ok (.istore_n (2 : Fin 4), 1)) (hi : Nat.blt 2 M.2.2.1 = true) (hp : znl a1 = true) (kk : zV G (pc + 1) (a0 :: a1 :: some (zI x) :: ls) st T FR AR FI AI k n) : zV G pc (a0 :: a1 :: a2 :: ls) (zI x :: st) T FR AR FI AI k n := zg_istore_n C hd hi (by cases a1 with | none => rfl | some v => rcases v with x | x | r | a <;> first | rfl | cases hp) kk
theorem zv_astore_2 (C : zCx M Post G) {a0 a1 a2 : Option zVal} {v : zVal} (hd : decode M.2.1 pc = .ok (.astore_n (2 : Fin 4), 1)) (hi : Nat.blt 2 M.2.2.1 = true) (hp : znl a1 = true) (hq : zrefq v = true) (kk : zV G (pc + 1) (a0 :: a1 :: some v :: ls) st T FR AR FI AI k n) : zV G pc (a0 :: a1 :: a2 :: ls) (v :: st) T FR AR FI AI k n := zg_astore_n C hd hi (by cases a1 with | none => rfl | some v => rcases v with x | x | r | a <;> first | rfl | cases hp) hq kk
theorem zv_iinc_2 (C : zCx M Post G) {a0 a1 : Option zVal} {x d : Int} (hd : decode M.2.1 pc = .ok (.iinc 2 d, 3)) (hi : Nat.blt 2 M.2.2.1 = true) (hp : znl a1 = true) (hr0 : zr32 (x + d)) (kk : zV G (pc + 3) (a0 :: a1 :: some (zI (x + d)) :: ls) st T FR AR FI AI k n) : zV G pc (a0 :: a1 :: some (zI x) :: ls) st T FR AR FI AI k n := zg_iinc C hd hi (by cases a1 with | none => rfl | some v => rcases v with x | x | r | a <;> first | rfl | cases hp) rfl hr0 kk
theorem zv_lstore_2 (C : zCx M Post G) {a0 a1 a2 a3 : Option zVal} {x : Int} (hd : decode M.2.1 pc = .ok (.lstore_n (2 : Fin 4), 1)) (hi : Nat.blt (2 + 1) M.2.2.1 = true) (hp : znl a1 = true) (kk : zV G (pc + 1) (a0 :: a1 :: some (zL x) :: none :: ls) st T FR AR FI AI k n) : zV G pc (a0 :: a1 :: a2 :: a3 :: ls) (zL x :: st) T FR AR FI AI k n := zg_lstore_n C hd hi (by cases a1 with | none => rfl | some v => rcases v with x | x | r | a <;> first | rfl | cases hp) kk
theorem zv_istore_3 (C : zCx M Post G) {a0 a1 a2 a3 : Option zVal} {x : Int} (hd : decode M.2.1 pc = .ok (.istore_n (3 : Fin 4), 1)) (hi : Nat.blt 3 M.2.2.1 = true) (hp : znl a2 = true) (kk : zV G (pc + 1) (a0 :: a1 :: a2 :: some (zI x) :: ls) st T FR AR FI AI k n) : zV G pc (a0 :: a1 :: a2 :: a3 :: ls) (zI x :: st) T FR AR FI AI k n := zg_istore_n C hd hi (by cases a2 with | none => rfl | some v => rcases v with x | x | r | a <;> first | rfl | cases hp) kk
theorem zv_astore_3 (C : zCx M Post G) {a0 a1 a2 a3 : Option zVal} {v : zVal} (hd : decode M.2.1 pc = .ok (.astore_n (3 : Fin 4), 1)) (hi : Nat.blt 3 M.2.2.1 = true) (hp : znl a2 = true) (hq : zrefq v = true) (kk : zV G (pc + 1) (a0 :: a1 :: a2 :: some v :: ls) st T FR AR FI AI k n) : zV G pc (a0 :: a1 :: a2 :: a3 :: ls) (v :: st) T FR AR FI AI k n := zg_astore_n C hd hi (by cases a2 with | none => rfl | some v => rcases v with x | x | r | a <;> first | rfl | cases hp) hq kk
theorem zv_iinc_3 (C : zCx M Post G) {a0 a1 a2 : Option zVal} {x d : Int} (hd : decode M.2.1 pc = .ok (.iinc 3 d, 3)) (hi : Nat.blt 3 M.2.2.1 = true) (hp : znl a2 = true) (hr0 : zr32 (x + d)) (kk : zV G (pc + 3) (a0 :: a1 :: a2 :: some (zI (x + d)) :: ls) st T FR AR FI AI k n) : zV G pc (a0 :: a1 :: a2 :: some (zI x) :: ls) st T FR AR FI AI k n := zg_iinc C hd hi (by cases a2 with | none => rfl | some v => rcases v with x | x | r | a <;> first | rfl | cases hp) rfl hr0 kk
theorem zv_lstore_3 (C : zCx M Post G) {a0 a1 a2 a3 a4 : Option zVal} {x : Int} (hd : decode M.2.1 pc = .ok (.lstore_n (3 : Fin 4), 1)) (hi : Nat.blt (3 + 1) M.2.2.1 = true) (hp : znl a2 = true) (kk : zV G (pc + 1) (a0 :: a1 :: a2 :: some (zL x) :: none :: ls) st T FR AR FI AI k n) : zV G pc (a0 :: a1 :: a2 :: a3 :: a4 :: ls) (zL x :: st) T FR AR FI AI k n := zg_lstore_n C hd hi (by cases a2 with | none => rfl | some v => rcases v with x | x | r | a <;> first | rfl | cases hp) kk
theorem zv_istore_4 (C : zCx M Post G) {a0 a1 a2 a3 a4 : Option zVal} {x : Int} (hd : decode M.2.1 pc = .ok (.istore 4, 2)) (hi : Nat.blt 4 M.2.2.1 = true) (hp : znl a3 = true) (kk : zV G (pc + 2) (a0 :: a1 :: a2 :: a3 :: some (zI x) :: ls) st T FR AR FI AI k n) : zV G pc (a0 :: a1 :: a2 :: a3 :: a4 :: ls) (zI x :: st) T FR AR FI AI k n := zg_istore C hd hi (by cases a3 with | none => rfl | some v => rcases v with x | x | r | a <;> first | rfl | cases hp) kk
theorem zv_astore_4 (C : zCx M Post G) {a0 a1 a2 a3 a4 : Option zVal} {v : zVal} (hd : decode M.2.1 pc = .ok (.astore 4, 2)) (hi : Nat.blt 4 M.2.2.1 = true) (hp : znl a3 = true) (hq : zrefq v = true) (kk : zV G (pc + 2) (a0 :: a1 :: a2 :: a3 :: some v :: ls) st T FR AR FI AI k n) : zV G pc (a0 :: a1 :: a2 :: a3 :: a4 :: ls) (v :: st) T FR AR FI AI k n := zg_astore C hd hi (by cases a3 with | none => rfl | some v => rcases v with x | x | r | a <;> first | rfl | cases hp) hq kk
theorem zv_iinc_4 (C : zCx M Post G) {a0 a1 a2 a3 : Option zVal} {x d : Int} (hd : decode M.2.1 pc = .ok (.iinc 4 d, 3)) (hi : Nat.blt 4 M.2.2.1 = true) (hp : znl a3 = true) (hr0 : zr32 (x + d)) (kk : zV G (pc + 3) (a0 :: a1 :: a2 :: a3 :: some (zI (x + d)) :: ls) st T FR AR FI AI k n) : zV G pc (a0 :: a1 :: a2 :: a3 :: some (zI x) :: ls) st T FR AR FI AI k n := zg_iinc C hd hi (by cases a3 with | none => rfl | some v => rcases v with x | x | r | a <;> first | rfl | cases hp) rfl hr0 kk
theorem zv_istore_5 (C : zCx M Post G) {a0 a1 a2 a3 a4 a5 : Option zVal} {x : Int} (hd : decode M.2.1 pc = .ok (.istore 5, 2)) (hi : Nat.blt 5 M.2.2.1 = true) (hp : znl a4 = true) (kk : zV G (pc + 2) (a0 :: a1 :: a2 :: a3 :: a4 :: some (zI x) :: ls) st T FR AR FI AI k n) : zV G pc (a0 :: a1 :: a2 :: a3 :: a4 :: a5 :: ls) (zI x :: st) T FR AR FI AI k n := zg_istore C hd hi (by cases a4 with | none => rfl | some v => rcases v with x | x | r | a <;> first | rfl | cases hp) kk
theorem zv_astore_5 (C : zCx M Post G) {a0 a1 a2 a3 a4 a5 : Option zVal} {v : zVal} (hd : decode M.2.1 pc = .ok (.astore 5, 2)) (hi : Nat.blt 5 M.2.2.1 = true) (hp : znl a4 = true) (hq : zrefq v = true) (kk : zV G (pc + 2) (a0 :: a1 :: a2 :: a3 :: a4 :: some v :: ls) st T FR AR FI AI k n) : zV G pc (a0 :: a1 :: a2 :: a3 :: a4 :: a5 :: ls) (v :: st) T FR AR FI AI k n := zg_astore C hd hi (by cases a4 with | none => rfl | some v => rcases v with x | x | r | a <;> first | rfl | cases hp) hq kk
theorem zv_iinc_5 (C : zCx M Post G) {a0 a1 a2 a3 a4 : Option zVal} {x d : Int} (hd : decode M.2.1 pc = .ok (.iinc 5 d, 3)) (hi : Nat.blt 5 M.2.2.1 = true) (hp : znl a4 = true) (hr0 : zr32 (x + d)) (kk : zV G (pc + 3) (a0 :: a1 :: a2 :: a3 :: a4 :: some (zI (x + d)) :: ls) st T FR AR FI AI k n) : zV G pc (a0 :: a1 :: a2 :: a3 :: a4 :: some (zI x) :: ls) st T FR AR FI AI k n := zg_iinc C hd hi (by cases a4 with | none => rfl | some v => rcases v with x | x | r | a <;> first | rfl | cases hp) rfl hr0 kk
theorem zv_istore_6 (C : zCx M Post G) {a0 a1 a2 a3 a4 a5 a6 : Option zVal} {x : Int} (hd : decode M.2.1 pc = .ok (.istore 6, 2)) (hi : Nat.blt 6 M.2.2.1 = true) (hp : znl a5 = true) (kk : zV G (pc + 2) (a0 :: a1 :: a2 :: a3 :: a4 :: a5 :: some (zI x) :: ls) st T FR AR FI AI k n) : zV G pc (a0 :: a1 :: a2 :: a3 :: a4 :: a5 :: a6 :: ls) (zI x :: st) T FR AR FI AI k n := zg_istore C hd hi (by cases a5 with | none => rfl | some v => rcases v with x | x | r | a <;> first | rfl | cases hp) kk
theorem zv_astore_6 (C : zCx M Post G) {a0 a1 a2 a3 a4 a5 a6 : Option zVal} {v : zVal} (hd : decode M.2.1 pc = .ok (.astore 6, 2)) (hi : Nat.blt 6 M.2.2.1 = true) (hp : znl a5 = true) (hq : zrefq v = true) (kk : zV G (pc + 2) (a0 :: a1 :: a2 :: a3 :: a4 :: a5 :: some v :: ls) st T FR AR FI AI k n) : zV G pc (a0 :: a1 :: a2 :: a3 :: a4 :: a5 :: a6 :: ls) (v :: st) T FR AR FI AI k n := zg_astore C hd hi (by cases a5 with | none => rfl | some v => rcases v with x | x | r | a <;> first | rfl | cases hp) hq kk
theorem zv_iinc_6 (C : zCx M Post G) {a0 a1 a2 a3 a4 a5 : Option zVal} {x d : Int} (hd : decode M.2.1 pc = .ok (.iinc 6 d, 3)) (hi : Nat.blt 6 M.2.2.1 = true) (hp : znl a5 = true) (hr0 : zr32 (x + d)) (kk : zV G (pc + 3) (a0 :: a1 :: a2 :: a3 :: a4 :: a5 :: some (zI (x + d)) :: ls) st T FR AR FI AI k n) : zV G pc (a0 :: a1 :: a2 :: a3 :: a4 :: a5 :: some (zI x) :: ls) st T FR AR FI AI k n := zg_iinc C hd hi (by cases a5 with | none => rfl | some v => rcases v with x | x | r | a <;> first | rfl | cases hp) rfl hr0 kk
theorem zv_istore_7 (C : zCx M Post G) {a0 a1 a2 a3 a4 a5 a6 a7 : Option zVal} {x : Int} (hd : decode M.2.1 pc = .ok (.istore 7, 2)) (hi : Nat.blt 7 M.2.2.1 = true) (hp : znl a6 = true) (kk : zV G (pc + 2) (a0 :: a1 :: a2 :: a3 :: a4 :: a5 :: a6 :: some (zI x) :: ls) st T FR AR FI AI k n) : zV G pc (a0 :: a1 :: a2 :: a3 :: a4 :: a5 :: a6 :: a7 :: ls) (zI x :: st) T FR AR FI AI k n := zg_istore C hd hi (by cases a6 with | none => rfl | some v => rcases v with x | x | r | a <;> first | rfl | cases hp) kk
theorem zv_astore_7 (C : zCx M Post G) {a0 a1 a2 a3 a4 a5 a6 a7 : Option zVal} {v : zVal} (hd : decode M.2.1 pc = .ok (.astore 7, 2)) (hi : Nat.blt 7 M.2.2.1 = true) (hp : znl a6 = true) (hq : zrefq v = true) (kk : zV G (pc + 2) (a0 :: a1 :: a2 :: a3 :: a4 :: a5 :: a6 :: some v :: ls) st T FR AR FI AI k n) : zV G pc (a0 :: a1 :: a2 :: a3 :: a4 :: a5 :: a6 :: a7 :: ls) (v :: st) T FR AR FI AI k n := zg_astore C hd hi (by cases a6 with | none => rfl | some v => rcases v with x | x | r | a <;> first | rfl | cases hp) hq kk
theorem zv_iinc_7 (C : zCx M Post G) {a0 a1 a2 a3 a4 a5 a6 : Option zVal} {x d : Int} (hd : decode M.2.1 pc = .ok (.iinc 7 d, 3)) (hi : Nat.blt 7 M.2.2.1 = true) (hp : znl a6 = true) (hr0 : zr32 (x + d)) (kk : zV G (pc + 3) (a0 :: a1 :: a2 :: a3 :: a4 :: a5 :: a6 :: some (zI (x + d)) :: ls) st T FR AR FI AI k n) : zV G pc (a0 :: a1 :: a2 :: a3 :: a4 :: a5 :: a6 :: some (zI x) :: ls) st T FR AR FI AI k n := zg_iinc C hd hi (by cases a6 with | none => rfl | some v => rcases v with x | x | r | a <;> first | rfl | cases hp) rfl hr0 kk
theorem zv_istore_8 (C : zCx M Post G) {a0 a1 a2 a3 a4 a5 a6 a7 a8 : Option zVal} {x : Int} (hd : decode M.2.1 pc = .ok (.istore 8, 2)) (hi : Nat.blt 8 M.2.2.1 = true) (hp : znl a7 = true) (kk : zV G (pc + 2) (a0 :: a1 :: a2 :: a3 :: a4 :: a5 :: a6 :: a7 :: some (zI x) :: ls) st T FR AR FI AI k n) : zV G pc (a0 :: a1 :: a2 :: a3 :: a4 :: a5 :: a6 :: a7 :: a8 :: ls) (zI x :: st) T FR AR FI AI k n := zg_istore C hd hi (by cases a7 with | none => rfl | some v => rcases v with x | x | r | a <;> first | rfl | cases hp) kk
theorem zv_astore_8 (C : zCx M Post G) {a0 a1 a2 a3 a4 a5 a6 a7 a8 : Option zVal} {v : zVal} (hd : decode M.2.1 pc = .ok (.astore 8, 2)) (hi : Nat.blt 8 M.2.2.1 = true) (hp : znl a7 = true) (hq : zrefq v = true) (kk : zV G (pc + 2) (a0 :: a1 :: a2 :: a3 :: a4 :: a5 :: a6 :: a7 :: some v :: ls) st T FR AR FI AI k n) : zV G pc (a0 :: a1 :: a2 :: a3 :: a4 :: a5 :: a6 :: a7 :: a8 :: ls) (v :: st) T FR AR FI AI k n := zg_astore C hd hi (by cases a7 with | none => rfl | some v => rcases v with x | x | r | a <;> first | rfl | cases hp) hq kk
theorem zv_iinc_8 (C : zCx M Post G) {a0 a1 a2 a3 a4 a5 a6 a7 : Option zVal} {x d : Int} (hd : decode M.2.1 pc = .ok (.iinc 8 d, 3)) (hi : Nat.blt 8 M.2.2.1 = true) (hp : znl a7 = true) (hr0 : zr32 (x + d)) (kk : zV G (pc + 3) (a0 :: a1 :: a2 :: a3 :: a4 :: a5 :: a6 :: a7 :: some (zI (x + d)) :: ls) st T FR AR FI AI k n) : zV G pc (a0 :: a1 :: a2 :: a3 :: a4 :: a5 :: a6 :: a7 :: some (zI x) :: ls) st T FR AR FI AI k n := zg_iinc C hd hi (by cases a7 with | none => rfl | some v => rcases v with x | x | r | a <;> first | rfl | cases hp) rfl hr0 kk
theorem zv_istore_9 (C : zCx M Post G) {a0 a1 a2 a3 a4 a5 a6 a7 a8 a9 : Option zVal} {x : Int} (hd : decode M.2.1 pc = .ok (.istore 9, 2)) (hi : Nat.blt 9 M.2.2.1 = true) (hp : znl a8 = true) (kk : zV G (pc + 2) (a0 :: a1 :: a2 :: a3 :: a4 :: a5 :: a6 :: a7 :: a8 :: some (zI x) :: ls) st T FR AR FI AI k n) : zV G pc (a0 :: a1 :: a2 :: a3 :: a4 :: a5 :: a6 :: a7 :: a8 :: a9 :: ls) (zI x :: st) T FR AR FI AI k n := zg_istore C hd hi (by cases a8 with | none => rfl | some v => rcases v with x | x | r | a <;> first | rfl | cases hp) kk
theorem zv_astore_9 (C : zCx M Post G) {a0 a1 a2 a3 a4 a5 a6 a7 a8 a9 : Option zVal} {v : zVal} (hd : decode M.2.1 pc = .ok (.astore 9, 2)) (hi : Nat.blt 9 M.2.2.1 = true) (hp : znl a8 = true) (hq : zrefq v = true) (kk : zV G (pc + 2) (a0 :: a1 :: a2 :: a3 :: a4 :: a5 :: a6 :: a7 :: a8 :: some v :: ls) st T FR AR FI AI k n) : zV G pc (a0 :: a1 :: a2 :: a3 :: a4 :: a5 :: a6 :: a7 :: a8 :: a9 :: ls) (v :: st) T FR AR FI AI k n := zg_astore C hd hi (by cases a8 with | none => rfl | some v => rcases v with x | x | r | a <;> first | rfl | cases hp) hq kk
theorem zv_iinc_9 (C : zCx M Post G) {a0 a1 a2 a3 a4 a5 a6 a7 a8 : Option zVal} {x d : Int} (hd : decode M.2.1 pc = .ok (.iinc 9 d, 3)) (hi : Nat.blt 9 M.2.2.1 = true) (hp : znl a8 = true) (hr0 : zr32 (x + d)) (kk : zV G (pc + 3) (a0 :: a1 :: a2 :: a3 :: a4 :: a5 :: a6 :: a7 :: a8 :: some (zI (x + d)) :: ls) st T FR AR FI AI k n) : zV G pc (a0 :: a1 :: a2 :: a3 :: a4 :: a5 :: a6 :: a7 :: a8 :: some (zI x) :: ls) st T FR AR FI AI k n := zg_iinc C hd hi (by cases a8 with | none => rfl | some v => rcases v with x | x | r | a <;> first | rfl | cases hp) rfl hr0 kk
theorem zv_istore_10 (C : zCx M Post G) {a0 a1 a2 a3 a4 a5 a6 a7 a8 a9 a10 : Option zVal} {x : Int} (hd : decode M.2.1 pc = .ok (.istore 10, 2)) (hi : Nat.blt 10 M.2.2.1 = true) (hp : znl a9 = true) (kk : zV G (pc + 2) (a0 :: a1 :: a2 :: a3 :: a4 :: a5 :: a6 :: a7 :: a8 :: a9 :: some (zI x) :: ls) st T FR AR FI AI k n) : zV G pc (a0 :: a1 :: a2 :: a3 :: a4 :: a5 :: a6 :: a7 :: a8 :: a9 :: a10 :: ls) (zI x :: st) T FR AR FI AI k n := zg_istore C hd hi (by cases a9 with | none => rfl | some v => rcases v with x | x | r | a <;> first | rfl | cases hp) kk
theorem zv_astore_10 (C : zCx M Post G) {a0 a1 a2 a3 a4 a5 a6 a7 a8 a9 a10 : Option zVal} {v : zVal} (hd : decode M.2.1 pc = .ok (.astore 10, 2)) (hi : Nat.blt 10 M.2.2.1 = true) (hp : znl a9 = true) (hq : zrefq v = true) (kk : zV G (pc + 2) (a0 :: a1 :: a2 :: a3 :: a4 :: a5 :: a6 :: a7 :: a8 :: a9 :: some v :: ls) st T FR AR FI AI k n) : zV G pc (a0 :: a1 :: a2 :: a3 :: a4 :: a5 :: a6 :: a7 :: a8 :: a9 :: a10 :: ls) (v :: st) T FR AR FI AI k n := zg_astore C hd hi (by cases a9 with | none => rfl | some v => rcases v with x | x | r | a <;> first | rfl | cases hp) hq kk
theorem zv_iinc_10 (C : zCx M Post G) {a0 a1 a2 a3 a4 a5 a6 a7 a8 a9 : Option zVal} {x d : Int} (hd : decode M.2.1 pc = .ok (.iinc 10 d, 3)) (hi : Nat.blt 10 M.2.2.1 = true) (hp : znl a9 = true) (hr0 : zr32 (x + d)) (kk : zV G (pc + 3) (a0 :: a1 :: a2 :: a3 :: a4 :: a5 :: a6 :: a7 :: a8 :: a9 :: some (zI (x + d)) :: ls) st T FR AR FI AI k n) : zV G pc (a0 :: a1 :: a2 :: a3 :: a4 :: a5 :: a6 :: a7 :: a8 :: a9 :: some (zI x) :: ls) st T FR AR FI AI k n := zg_iinc C hd hi (by cases a9 with | none => rfl | some v => rcases v with x | x | r | a <;> first | rfl | cases hp) rfl hr0 kk
theorem zv_istore_11 (C : zCx M Post G) {a0 a1 a2 a3 a4 a5 a6 a7 a8 a9 a10 a11 : Option zVal} {x : Int} (hd : decode M.2.1 pc = .ok (.istore 11, 2)) (hi : Nat.blt 11 M.2.2.1 = true) (hp : znl a10 = true) (kk : zV G (pc + 2) (a0 :: a1 :: a2 :: a3 :: a4 :: a5 :: a6 :: a7 :: a8 :: a9 :: a10 :: some (zI x) :: ls) st T FR AR FI AI k n) : zV G pc (a0 :: a1 :: a2 :: a3 :: a4 :: a5 :: a6 :: a7 :: a8 :: a9 :: a10 :: a11 :: ls) (zI x :: st) T FR AR FI AI k n := zg_istore C hd hi (by cases a10 with | none => rfl | some v => rcases v with x | x | r | a <;> first | rfl | cases hp) kk
theorem zv_astore_11 (C : zCx M Post G) {a0 a1 a2 a3 a4 a5 a6 a7 a8 a9 a10 a11 : Option zVal} {v : zVal} (hd : decode M.2.1 pc = .ok (.astore 11, 2)) (hi : Nat.blt 11 M.2.2.1 = true) (hp : znl a10 = true) (hq : zrefq v = true) (kk : zV G (pc + 2) (a0 :: a1 :: a2 :: a3 :: a4 :: a5 :: a6 :: a7 :: a8 :: a9 :: a10 :: some v :: ls) st T FR AR FI AI k n) : zV G pc (a0 :: a1 :: a2 :: a3 :: a4 :: a5 :: a6 :: a7 :: a8 :: a9 :: a10 :: a11 :: ls) (v :: st) T FR AR FI AI k n := zg_astore C hd hi (by cases a10 with | none => rfl | some v => rcases v with x | x | r | a <;> first | rfl | cases hp) hq kk
theorem zv_iinc_11 (C : zCx M Post G) {a0 a1 a2 a3 a4 a5 a6 a7 a8 a9 a10 : Option zVal} {x d : Int} (hd : decode M.2.1 pc = .ok (.iinc 11 d, 3)) (hi : Nat.blt 11 M.2.2.1 = true) (hp : znl a10 = true) (hr0 : zr32 (x + d)) (kk : zV G (pc + 3) (a0 :: a1 :: a2 :: a3 :: a4 :: a5 :: a6 :: a7 :: a8 :: a9 :: a10 :: some (zI (x + d)) :: ls) st T FR AR FI AI k n) : zV G pc (a0 :: a1 :: a2 :: a3 :: a4 :: a5 :: a6 :: a7 :: a8 :: a9 :: a10 :: some (zI x) :: ls) st T FR AR FI AI k n := zg_iinc C hd hi (by cases a10 with | none => rfl | some v => rcases v with x | x | r | a <;> first | rfl | cases hp) rfl hr0 kk
theorem zv_istore_12 (C : zCx M Post G) {a0 a1 a2 a3 a4 a5 a6 a7 a8 a9 a10 a11 a12 : Option zVal} {x : Int} (hd : decode M.2.1 pc = .ok (.istore 12, 2)) (hi : Nat.blt 12 M.2.2.1 = true) (hp : znl a11 = true) (kk : zV G (pc + 2) (a0 :: a1 :: a2 :: a3 :: a4 :: a5 :: a6 :: a7 :: a8 :: a9 :: a10 :: a11 :: some (zI x) :: ls) st T FR AR FI AI k n) : zV G pc (a0 :: a1 :: a2 :: a3 :: a4 :: a5 :: a6 :: a7 :: a8 :: a9 :: a10 :: a11 :: a12 :: ls) (zI x :: st) T FR AR FI AI k n := zg_istore C hd hi (by cases a11 with | none => rfl | some v => rcases v with x | x | r | a <;> first | rfl | cases hp) kk
theorem zv_astore_12 (C : zCx M Post G) {a0 a1 a2 a3 a4 a5 a6 a7 a8 a9 a10 a11 a12 : Option zVal} {v : zVal} (hd : decode M.2.1 pc = .ok (.astore 12, 2)) (hi : Nat.blt 12 M.2.2.1 = true) (hp : znl a11 = true) (hq : zrefq v = true) (kk : zV G (pc + 2) (a0 :: a1 :: a2 :: a3 :: a4 :: a5 :: a6 :: a7 :: a8 :: a9 :: a10 :: a11 :: some v :: ls) st T FR AR FI AI k n) : zV G pc (a0 :: a1 :: a2 :: a3 :: a4 :: a5 :: a6 :: a7 :: a8 :: a9 :: a10 :: a11 :: a12 :: ls) (v :: st) T FR AR FI AI k n := zg_astore C hd hi (by cases a11 with | none => rfl | some v => rcases v with x | x | r | a <;> first | rfl | cases hp) hq kk
theorem zv_iinc_12 (C : zCx M Post G) {a0 a1 a2 a3 a4 a5 a6 a7 a8 a9 a10 a11 : Option zVal} {x d : Int} (hd : decode M.2.1 pc = .ok (.iinc 12 d, 3)) (hi : Nat.blt 12 M.2.2.1 = true) (hp : znl a11 = true) (hr0 : zr32 (x + d)) (kk : zV G (pc + 3) (a0 :: a1 :: a2 :: a3 :: a4 :: a5 :: a6 :: a7 :: a8 :: a9 :: a10 :: a11 :: some (zI (x + d)) :: ls) st T FR AR FI AI k n) : zV G pc (a0 :: a1 :: a2 :: a3 :: a4 :: a5 :: a6 :: a7 :: a8 :: a9 :: a10 :: a11 :: some (zI x) :: ls) st T FR AR FI AI k n := zg_iinc C hd hi (by cases a11 with | none => rfl | some v => rcases v with x | x | r | a <;> first | rfl | cases hp) rfl hr0 kk
theorem zv_istore_13 (C : zCx M Post G) {a0 a1 a2 a3 a4 a5 a6 a7 a8 a9 a10 a11 a12 a13 : Option zVal} {x : Int} (hd : decode M.2.1 pc = .ok (.istore 13, 2)) (hi : Nat.blt 13 M.2.2.1 = true) (hp : znl a12 = true) (kk : zV G (pc + 2) (a0 :: a1 :: a2 :: a3 :: a4 :: a5 :: a6 :: a7 :: a8 :: a9 :: a10 :: a11 :: a12 :: some (zI x) :: ls) st T FR AR FI AI k n) : zV G pc (a0 :: a1 :: a2 :: a3 :: a4 :: a5 :: a6 :: a7 :: a8 :: a9 :: a10 :: a11 :: a12 :: a13 :: ls) (zI x :: st) T FR AR FI AI k n := zg_istore C hd hi (by cases a12 with | none => rfl | some v => rcases v with x | x | r | a <;> first | rfl | cases hp) kk
theorem zv_astore_13 (C : zCx M Post G) {a0 a1 a2 a3 a4 a5 a6 a7 a8 a9 a10 a11 a12 a13 : Option zVal} {v : zVal} (hd : decode M.2.1 pc = .ok (.astore 13, 2)) (hi : Nat.blt 13 M.2.2.1 = true) (hp : znl a12 = true) (hq : zrefq v = true) (kk : zV G (pc + 2) (a0 :: a1 :: a2 :: a3 :: a4 :: a5 :: a6 :: a7 :: a8 :: a9 :: a10 :: a11 :: a12 :: some v :: ls) st T FR AR FI AI k n) : zV G pc (a0 :: a1 :: a2 :: a3 :: a4 :: a5 :: a6 :: a7 :: a8 :: a9 :: a10 :: a11 :: a12 :: a13 :: ls) (v :: st) T FR AR FI AI k n := zg_astore C hd hi (by cases a12 with | none => rfl | some v => rcases v with x | x | r | a <;> first | rfl | cases hp) hq kk
theorem zv_iinc_13 (C : zCx M Post G) {a0 a1 a2 a3 a4 a5 a6 a7 a8 a9 a10 a11 a12 : Option zVal} {x d : Int} (hd : decode M.2.1 pc = .ok (.iinc 13 d, 3)) (hi : Nat.blt 13 M.2.2.1 = true) (hp : znl a12 = true) (hr0 : zr32 (x + d)) (kk : zV G (pc + 3) (a0 :: a1 :: a2 :: a3 :: a4 :: a5 :: a6 :: a7 :: a8 :: a9 :: a10 :: a11 :: a12 :: some (zI (x + d)) :: ls) st T FR AR FI AI k n) : zV G pc (a0 :: a1 :: a2 :: a3 :: a4 :: a5 :: a6 :: a7 :: a8 :: a9 :: a10 :: a11 :: a12 :: some (zI x) :: ls) st T FR AR FI AI k n := zg_iinc C hd hi (by cases a12 with | none => rfl | some v => rcases v with x | x | r | a <;> first | rfl | cases hp) rfl hr0 kk
theorem zv_istore_14 (C : zCx M Post G) {a0 a1 a2 a3 a4 a5 a6 a7 a8 a9 a10 a11 a12 a13 a14 : Option zVal} {x : Int} (hd : decode M.2.1 pc = .ok (.istore 14, 2)) (hi : Nat.blt 14 M.2.2.1 = true) (hp : znl a13 = true) (kk : zV G (pc + 2) (a0 :: a1 :: a2 :: a3 :: a4 :: a5 :: a6 :: a7 :: a8 :: a9 :: a10 :: a11 :: a12 :: a13 :: some (zI x) :: ls) st T FR AR FI AI k n) : zV G pc (a0 :: a1 :: a2 :: a3 :: a4 :: a5 :: a6 :: a7 :: a8 :: a9 :: a10 :: a11 :: a12 :: a13 :: a14 :: ls) (zI x :: st) T FR AR FI AI k n := zg_istore C hd hi (by cases a13 with | none => rfl | some v => rcases v with x | x | r | a <;> first | rfl | cases hp) kk
theorem zv_astore_14 (C : zCx M Post G) {a0 a1 a2 a3 a4 a5 a6 a7 a8 a9 a10 a11 a12 a13 a14 : Option zVal} {v : zVal} (hd : decode M.2.1 pc = .ok (.astore 14, 2)) (hi : Nat.blt 14 M.2.2.1 = true) (hp : znl a13 = true) (hq : zrefq v = true) (kk : zV G (pc + 2) (a0 :: a1 :: a2 :: a3 :: a4 :: a5 :: a6 :: a7 :: a8 :: a9 :: a10 :: a11 :: a12 :: a13 :: some v :: ls) st T FR AR FI AI k n) : zV G pc (a0 :: a1 :: a2 :: a3 :: a4 :: a5 :: a6 :: a7 :: a8 :: a9 :: a10 :: a11 :: a12 :: a13 :: a14 :: ls) (v :: st) T FR AR FI AI k n := zg_astore C hd hi (by cases a13 with | none => rfl | some v => rcases v with x | x | r | a <;> first | rfl | cases hp) hq kk
theorem zv_iinc_14 (C : zCx M Post G) {a0 a1 a2 a3 a4 a5 a6 a7 a8 a9 a10 a11 a12 a13 : Option zVal} {x d : Int} (hd : decode M.2.1 pc = .ok (.iinc 14 d, 3)) (hi : Nat.blt 14 M.2.2.1 = true) (hp : znl a13 = true) (hr0 : zr32 (x + d)) (kk : zV G (pc + 3) (a0 :: a1 :: a2 :: a3 :: a4 :: a5 :: a6 :: a7 :: a8 :: a9 :: a10 :: a11 :: a12 :: a13 :: some (zI (x + d)) :: ls) st T FR AR FI AI k n) : zV G pc (a0 :: a1 :: a2 :: a3 :: a4 :: a5 :: a6 :: a7 :: a8 :: a9 :: a10 :: a11 :: a12 :: a13 :: some (zI x) :: ls) st T FR AR FI AI k n := zg_iinc C hd hi (by cases a13 with | none => rfl | some v => rcases v with x | x | r | a <;> first | rfl | cases hp) rfl hr0 kk
theorem zv_iadd (C : zCx M Post G) {x y : Int} (hd : decode M.2.1 pc = .ok (.iadd, 1)) (hr0 : zr32 (x + y)) (kk : zV G (pc + 1) ls (zI (x + y) :: st) T FR AR FI AI k n) : zV G pc ls (zI y :: zI x :: st) T FR AR FI AI k n := by
  obtain ⟨p, l, e, R, s, m, args, below, meth, c, Q, A, D, cs, T0, ad0⟩ := G
  obtain ⟨hx, hb, hml, hr, hlk, hnm, hown, hts, hK, hA, hR, hQ, hSt, hfl⟩ := C
  intro ad H locs lsr hM hS hl h1 h2
  have kk' := kk ad H locs lsr hM hS hl h1 (zcons hr0 (ztl (ztl h2)))
  have e1 : zc ad (zI (x + y)) = .int (Int32.ofInt x + Int32.ofInt y) := by show Value.int _ = _; rw [Int32.ofInt_add]
  rw [List.map_cons, e1] at kk'
  exact lv_iadd hx hb hd kk'
theorem zv_isub (C : zCx M Post G) {x y : Int} (hd : decode M.2.1 pc = .ok (.isub, 1)) (hr0 : zr32 (x - y)) (kk : zV G (pc + 1) ls (zI (x - y) :: st) T FR AR FI AI k n) : zV G pc ls (zI y :: zI x :: st) T FR AR FI AI k n := by
  obtain ⟨p, l, e, R, s, m, args, below, meth, c, Q, A, D, cs, T0, ad0⟩ := G
  obtain ⟨hx, hb, hml, hr, hlk, hnm, hown, hts, hK, hA, hR, hQ, hSt, hfl⟩ := C
  intro ad H locs lsr hM hS hl h1 h2
  have kk' := kk ad H locs lsr hM hS hl h1 (zcons hr0 (ztl (ztl h2)))
  have e1 : zc ad (zI (x - y)) = .int (Int32.ofInt x - Int32.ofInt y) := by show Value.int _ = _; rw [Int32.ofInt_sub]
  rw [List.map_cons, e1] at kk'
  exact lv_isub hx hb hd kk'
theorem zv_imul (C : zCx M Post G) {x y : Int} (hd : decode M.2.1 pc = .ok (.imul, 1)) (hr0 : zr32 (x * y)) (kk : zV G (pc + 1) ls (zI (x * y) :: st) T FR AR FI AI k n) : zV G pc ls (zI y :: zI x :: st) T FR AR FI AI k n := by
  obtain ⟨p, l, e, R, s, m, args, below, meth, c, Q, A, D, cs, T0, ad0⟩ := G
  obtain ⟨hx, hb, hml, hr, hlk, hnm, hown, hts, hK, hA, hR, hQ, hSt, hfl⟩ := C
  intro ad H locs lsr hM hS hl h1 h2
  have kk' := kk ad H locs lsr hM hS hl h1 (zcons hr0 (ztl (ztl h2)))
  have e1 : zc ad (zI (x * y)) = .int (Int32.ofInt x * Int32.ofInt y) := by show Value.int _ = _; rw [Int32.ofInt_mul]
  rw [List.map_cons, e1] at kk'
  exact lv_imul hx hb hd kk'
theorem zv_ladd (C : zCx M Post G) {x y : Int} (hd : decode M.2.1 pc = .ok (.ladd, 1)) (hr0 : zr64 (x + y)) (kk : zV G (pc + 1) ls (zL (x + y) :: st) T FR AR FI AI k n) : zV G pc ls (zL y :: zL x :: st) T FR AR FI AI k n := by
  obtain ⟨p, l, e, R, s, m, args, below, meth, c, Q, A, D, cs, T0, ad0⟩ := G
  obtain ⟨hx, hb, hml, hr, hlk, hnm, hown, hts, hK, hA, hR, hQ, hSt, hfl⟩ := C
  intro ad H locs lsr hM hS hl h1 h2
  have kk' := kk ad H locs lsr hM hS hl h1 (zcons hr0 (ztl (ztl h2)))
  have e1 : zc ad (zL (x + y)) = .long (Int64.ofInt x + Int64.ofInt y) := by show Value.long _ = _; rw [Int64.ofInt_add]
  rw [List.map_cons, e1] at kk'
  exact lv_ladd hx hb hd kk'
theorem zv_lsub (C : zCx M Post G) {x y : Int} (hd : decode M.2.1 pc = .ok (.lsub, 1)) (hr0 : zr64 (x - y)) (kk : zV G (pc + 1) ls (zL (x - y) :: st) T FR AR FI AI k n) : zV G pc ls (zL y :: zL x :: st) T FR AR FI AI k n := by
  obtain ⟨p, l, e, R, s, m, args, below, meth, c, Q, A, D, cs, T0, ad0⟩ := G
  obtain ⟨hx, hb, hml, hr, hlk, hnm, hown, hts, hK, hA, hR, hQ, hSt, hfl⟩ := C
  intro ad H locs lsr hM hS hl h1 h2
  have kk' := kk ad H locs lsr hM hS hl h1 (zcons hr0 (ztl (ztl h2)))
  have e1 : zc ad (zL (x - y)) = .long (Int64.ofInt x - Int64.ofInt y) := by show Value.long _ = _; rw [Int64.ofInt_sub]
  rw [List.map_cons, e1] at kk'
  exact lv_lsub hx hb hd kk'
theorem zv_lmul (C : zCx M Post G) {x y : Int} (hd : decode M.2.1 pc = .ok (.lmul, 1)) (hr0 : zr64 (x * y)) (kk : zV G (pc + 1) ls (zL (x * y) :: st) T FR AR FI AI k n) : zV G pc ls (zL y :: zL x :: st) T FR AR FI AI k n := by
  obtain ⟨p, l, e, R, s, m, args, below, meth, c, Q, A, D, cs, T0, ad0⟩ := G
  obtain ⟨hx, hb, hml, hr, hlk, hnm, hown, hts, hK, hA, hR, hQ, hSt, hfl⟩ := C
  intro ad H locs lsr hM hS hl h1 h2
  have kk' := kk ad H locs lsr hM hS hl h1 (zcons hr0 (ztl (ztl h2)))
  have e1 : zc ad (zL (x * y)) = .long (Int64.ofInt x * Int64.ofInt y) := by show Value.long _ = _; rw [Int64.ofInt_mul]
  rw [List.map_cons, e1] at kk'
  exact lv_lmul hx hb hd kk'
theorem zv_ineg (C : zCx M Post G) {x : Int} (hd : decode M.2.1 pc = .ok (.ineg, 1)) (hr0 : zr32 (-x)) (kk : zV G (pc + 1) ls (zI (-x) :: st) T FR AR FI AI k n) : zV G pc ls (zI x :: st) T FR AR FI AI k n := by
  obtain ⟨p, l, e, R, s, m, args, below, meth, c, Q, A, D, cs, T0, ad0⟩ := G
  obtain ⟨hx, hb, hml, hr, hlk, hnm, hown, hts, hK, hA, hR, hQ, hSt, hfl⟩ := C
  intro ad H locs lsr hM hS hl h1 h2
  have kk' := kk ad H locs lsr hM hS hl h1 (zcons hr0 (ztl h2))
  have e1 : zc ad (zI (-x)) = .int (-Int32.ofInt x) := by show Value.int _ = _; rw [Int32.ofInt_neg]
  rw [List.map_cons, e1] at kk'
  exact lv_ineg hx hb hd kk'
theorem zdiv32 {x y : Int} (hx : zr32 x) (hy : zr32 y) (h0 : 0 ≤ x) (h1 : 0 < y) : Int32.ofInt x / Int32.ofInt y = Int32.ofInt (x / y) ∧ zr32 (x / y) := by
  have hq : x.tdiv y = x / y := Int.tdiv_eq_ediv_of_nonneg h0
  have hb1 : 0 ≤ x / y := Int.ediv_nonneg h0 (by omega)
  have hb2 : x / y ≤ x := Int.ediv_le_self y h0
  have hr : zr32 (x / y) := ⟨by omega, by have := hx.2; omega⟩
  refine ⟨?_, hr⟩
  rw [← Int32.toInt_inj, z32 hr, Int32.toInt_div, z32 hx, z32 hy, hq]
  exact Int.bmod_eq_of_le (by have := hr.1; omega) (by have := hr.2; omega)
theorem zdiv64 {x y : Int} (hx : zr64 x) (hy : zr64 y) (h0 : 0 ≤ x) (h1 : 0 < y) : Int64.ofInt x / Int64.ofInt y = Int64.ofInt (x / y) ∧ zr64 (x / y) := by
  have hq : x.tdiv y = x / y := Int.tdiv_eq_ediv_of_nonneg h0
  have hb1 : 0 ≤ x / y := Int.ediv_nonneg h0 (by omega)
  have hb2 : x / y ≤ x := Int.ediv_le_self y h0
  have hr : zr64 (x / y) := ⟨by omega, by have := hx.2; omega⟩
  refine ⟨?_, hr⟩
  rw [← Int64.toInt_inj, z64 hr, Int64.toInt_div, z64 hx, z64 hy, hq]
  exact Int.bmod_eq_of_le (by have := hr.1; omega) (by have := hr.2; omega)
theorem zv_idiv (C : zCx M Post G) {x y : Int} (hd : decode M.2.1 pc = .ok (.idiv, 1)) (hx0 : 0 ≤ x) (hy0 : 0 < y) (kk : zV G (pc + 1) ls (zI (x / y) :: st) T FR AR FI AI k n) : zV G pc ls (zI y :: zI x :: st) T FR AR FI AI k n := by
  obtain ⟨p, l, e, R, s, m, args, below, meth, c, Q, A, D, cs, T0, ad0⟩ := G
  obtain ⟨hx, hb, hml, hr, hlk, hnm, hown, hts, hK, hA, hR, hQ, hSt, hfl⟩ := C
  intro ad H locs lsr hM hS hl h1 h2
  obtain ⟨e1, e2⟩ := zdiv32 (zhd (ztl h2)) (zhd h2) hx0 hy0
  have kk' := kk ad H locs lsr hM hS hl h1 (zcons e2 (ztl (ztl h2)))
  rw [List.map_cons, show zc ad (zI (x / y)) = .int (Int32.ofInt x / Int32.ofInt y) from by rw [e1]; rfl] at kk'
  refine lv_idiv hx hb hd (fun z => ?_) kk'
  rw [z32z, z32eq (zhd h2) zr0] at z
  omega
theorem zv_ldiv (C : zCx M Post G) {x y : Int} (hd : decode M.2.1 pc = .ok (.ldiv, 1)) (hx0 : 0 ≤ x) (hy0 : 0 < y) (kk : zV G (pc + 1) ls (zL (x / y) :: st) T FR AR FI AI k n) : zV G pc ls (zL y :: zL x :: st) T FR AR FI AI k n := by
  obtain ⟨p, l, e, R, s, m, args, below, meth, c, Q, A, D, cs, T0, ad0⟩ := G
  obtain ⟨hx, hb, hml, hr, hlk, hnm, hown, hts, hK, hA, hR, hQ, hSt, hfl⟩ := C
  intro ad H locs lsr hM hS hl h1 h2
  obtain ⟨e1, e2⟩ := zdiv64 (zhd (ztl h2)) (zhd h2) hx0 hy0
  have kk' := kk ad H locs lsr hM hS hl h1 (zcons e2 (ztl (ztl h2)))
  rw [List.map_cons, show zc ad (zL (x / y)) = .long (Int64.ofInt x / Int64.ofInt y) from by rw [e1]; rfl] at kk'
  refine lv_ldiv hx hb hd (fun z => ?_) kk'
  have z2 := congrArg Int64.toInt z
  rw [z64 (zhd h2)] at z2
  have z3 : (0 : Int64).toInt = 0 := rfl
  rw [z3] at z2
  omega
theorem zv_irem (C : zCx M Post G) {x y : Int} (hd : decode M.2.1 pc = .ok (.irem, 1)) (hx0 : 0 ≤ x) (hy0 : 0 < y) (kk : zV G (pc + 1) ls (zI (x % y) :: st) T FR AR FI AI k n) : zV G pc ls (zI y :: zI x :: st) T FR AR FI AI k n := by
  obtain ⟨p, l, e, R, s, m, args, below, meth, c, Q, A, D, cs, T0, ad0⟩ := G
  obtain ⟨hx, hb, hml, hr, hlk, hnm, hown, hts, hK, hA, hR, hQ, hSt, hfl⟩ := C
  intro ad H locs lsr hM hS hl h1 h2
  obtain ⟨e1, e2⟩ := zdiv32 (zhd (ztl h2)) (zhd h2) hx0 hy0
  have hb1 := Int.emod_nonneg x (show y ≠ 0 by omega)
  have hb2 := Int.emod_lt_of_pos x hy0
  have hy2 : zr32 y := zhd h2
  have kk' := kk ad H locs lsr hM hS hl h1 (zcons (show zr32 (x % y) from ⟨by omega, by have := hy2.2; omega⟩) (ztl (ztl h2)))
  have e3 : Int32.ofInt (x % y) = Int32.ofInt x - Int32.ofInt x / Int32.ofInt y * Int32.ofInt y := by
    rw [e1, ← Int32.ofInt_mul, ← Int32.ofInt_sub]
    congr 1
    rw [Int.emod_def, Int.mul_comm]
  rw [List.map_cons, show zc ad (zI (x % y)) = .int (Int32.ofInt x - Int32.ofInt x / Int32.ofInt y * Int32.ofInt y) from by rw [← e3]; rfl] at kk'
  refine lv_irem hx hb hd (fun z => ?_) kk'
  rw [z32z, z32eq (zhd h2) zr0] at z
  omega
theorem zv_i2l (C : zCx M Post G) {x : Int} (hd : decode M.2.1 pc = .ok (.i2l, 1)) (kk : zV G (pc + 1) ls (zL x :: st) T FR AR FI AI k n) : zV G pc ls (zI x :: st) T FR AR FI AI k n := by
  obtain ⟨p, l, e, R, s, m, args, below, meth, c, Q, A, D, cs, T0, ad0⟩ := G
  obtain ⟨hx, hb, hml, hr, hlk, hnm, hown, hts, hK, hA, hR, hQ, hSt, hfl⟩ := C
  intro ad H locs lsr hM hS hl h1 h2
  have hx3 : zr32 x := zhd h2
  have h64 : zr64 x := ⟨by have := hx3.1; omega, by have := hx3.2; omega⟩
  have e1 : (Int32.ofInt x).toInt64 = Int64.ofInt x := by rw [← Int64.toInt_inj, Int32.toInt_toInt64, z32 hx3, z64 h64]
  exact lv_i2l hx hb hd e1 (kk ad H locs lsr hM hS hl h1 (zcons h64 (ztl h2)))
theorem zv_l2i (C : zCx M Post G) {x : Int} (hd : decode M.2.1 pc = .ok (.l2i, 1)) (hr0 : zr32 x) (kk : zV G (pc + 1) ls (zI x :: st) T FR AR FI AI k n) : zV G pc ls (zL x :: st) T FR AR FI AI k n := by
  obtain ⟨p, l, e, R, s, m, args, below, meth, c, Q, A, D, cs, T0, ad0⟩ := G
  obtain ⟨hx, hb, hml, hr, hlk, hnm, hown, hts, hK, hA, hR, hQ, hSt, hfl⟩ := C
  intro ad H locs lsr hM hS hl h1 h2
  have e1 : (Int64.ofInt x).toInt32 = Int32.ofInt x := by simp
  exact lv_l2i hx hb hd e1 (kk ad H locs lsr hM hS hl h1 (zcons hr0 (ztl h2)))
theorem zv_i2b (C : zCx M Post G) {x : Int} (hd : decode M.2.1 pc = .ok (.i2b, 1)) (kk : zV G (pc + 1) ls (zI (Int.bmod x 256) :: st) T FR AR FI AI k n) : zV G pc ls (zI x :: st) T FR AR FI AI k n := by
  obtain ⟨p, l, e, R, s, m, args, below, meth, c, Q, A, D, cs, T0, ad0⟩ := G
  obtain ⟨hx, hb, hml, hr, hlk, hnm, hown, hts, hK, hA, hR, hQ, hSt, hfl⟩ := C
  intro ad H locs lsr hM hS hl h1 h2
  have hb1 : -128 ≤ Int.bmod x 256 := by have := @Int.le_bmod x 256 (by decide); omega
  have hb2 : Int.bmod x 256 < 128 := by have := @Int.bmod_lt x 256 (by decide); omega
  have hr2 : zr32 (Int.bmod x 256) := ⟨by omega, by omega⟩
  have e1 : (Int32.ofInt x).toInt8.toInt32 = Int32.ofInt (Int.bmod x 256) := by
    rw [← Int32.toInt_inj, z32 hr2]
    have hx3 : zr32 x := zhd h2
    simp [z32 hx3]
  exact lv_i2b hx hb hd e1 (kk ad H locs lsr hM hS hl h1 (zcons hr2 (ztl h2)))
theorem zv_icmp_lt (C : zCx M Post G) {x y off : Int} (tgt : Nat) (hd : decode M.2.1 pc = .ok (.if_icmp .lt off, 3)) (ht : (pc : Int) + off = (tgt : Int)) (kt : x < y → zV G tgt ls st T FR AR FI AI k n) (kf : ¬ x < y → zV G (pc + 3) ls st T FR AR FI AI k n) : zV G pc ls (zI y :: zI x :: st) T FR AR FI AI k n := by
  obtain ⟨p, l, e, R, s, m, args, below, meth, c, Q, A, D, cs, T0, ad0⟩ := G
  obtain ⟨hx, hb, hml, hr, hlk, hnm, hown, hts, hK, hA, hR, hQ, hSt, hfl⟩ := C
  intro ad H locs lsr hM hS hl h1 h2
  have hi := (z32lt (zhd (ztl h2)) (zhd h2))
  refine lv_icmp_lt (tgt := tgt) hx hb hd ht (fun z => ?_) (fun z => ?_)
  · exact kt (by first | exact hi.mp z | exact fun w => z (hi.mpr w)) ad H locs lsr hM hS hl h1 (ztl (ztl h2))
  · exact kf (by first | exact fun w => z (hi.mpr w) | exact hi.mp z) ad H locs lsr hM hS hl h1 (ztl (ztl h2))
theorem zv_icmp_ge (C : zCx M Post G) {x y off : Int} (tgt : Nat) (hd : decode M.2.1 pc = .ok (.if_icmp .ge off, 3)) (ht : (pc : Int) + off = (tgt : Int)) (kt : y ≤ x → zV G tgt ls st T FR AR FI AI k n) (kf : ¬ y ≤ x → zV G (pc + 3) ls st T FR AR FI AI k n) : zV G pc ls (zI y :: zI x :: st) T FR AR FI AI k n := by
  obtain ⟨p, l, e, R, s, m, args, below, meth, c, Q, A, D, cs, T0, ad0⟩ := G
  obtain ⟨hx, hb, hml, hr, hlk, hnm, hown, hts, hK, hA, hR, hQ, hSt, hfl⟩ := C
  intro ad H locs lsr hM hS hl h1 h2
  have hi := (z32le (zhd h2) (zhd (ztl h2)))
  refine lv_icmp_ge (tgt := tgt) hx hb hd ht (fun z => ?_) (fun z => ?_)
  · exact kt (by first | exact hi.mp z | exact fun w => z (hi.mpr w)) ad H locs lsr hM hS hl h1 (ztl (ztl h2))
  · exact kf (by first | exact fun w => z (hi.mpr w) | exact hi.mp z) ad H locs lsr hM hS hl h1 (ztl (ztl h2))
theorem zv_icmp_gt (C : zCx M Post G) {x y off : Int} (tgt : Nat) (hd : decode M.2.1 pc = .ok (.if_icmp .gt off, 3)) (ht : (pc : Int) + off = (tgt : Int)) (kt : y < x → zV G tgt ls st T FR AR FI AI k n) (kf : ¬ y < x → zV G (pc + 3) ls st T FR AR FI AI k n) : zV G pc ls (zI y :: zI x :: st) T FR AR FI AI k n := by
  obtain ⟨p, l, e, R, s, m, args, below, meth, c, Q, A, D, cs, T0, ad0⟩ := G
  obtain ⟨hx, hb, hml, hr, hlk, hnm, hown, hts, hK, hA, hR, hQ, hSt, hfl⟩ := C
  intro ad H locs lsr hM hS hl h1 h2
  have hi := (z32lt (zhd h2) (zhd (ztl h2)))
  refine lv_icmp_gt (tgt := tgt) hx hb hd ht (fun z => ?_) (fun z => ?_)
  · exact kt (by first | exact hi.mp z | exact fun w => z (hi.mpr w)) ad H locs lsr hM hS hl h1 (ztl (ztl h2))
  · exact kf (by first | exact fun w => z (hi.mpr w) | exact hi.mp z) ad H locs lsr hM hS hl h1 (ztl (ztl h2))
theorem zv_icmp_le (C : zCx M Post G) {x y off : Int} (tgt : Nat) (hd : decode M.2.1 pc = .ok (.if_icmp .le off, 3)) (ht : (pc : Int) + off = (tgt : Int)) (kt : x ≤ y → zV G tgt ls st T FR AR FI AI k n) (kf : ¬ x ≤ y → zV G (pc + 3) ls st T FR AR FI AI k n) : zV G pc ls (zI y :: zI x :: st) T FR AR FI AI k n := by
  obtain ⟨p, l, e, R, s, m, args, below, meth, c, Q, A, D, cs, T0, ad0⟩ := G
  obtain ⟨hx, hb, hml, hr, hlk, hnm, hown, hts, hK, hA, hR, hQ, hSt, hfl⟩ := C
  intro ad H locs lsr hM hS hl h1 h2
  have hi := (z32le (zhd (ztl h2)) (zhd h2))
  refine lv_icmp_le (tgt := tgt) hx hb hd ht (fun z => ?_) (fun z => ?_)
  · exact kt (by first | exact hi.mp z | exact fun w => z (hi.mpr w)) ad H locs lsr hM hS hl h1 (ztl (ztl h2))
  · exact kf (by first | exact fun w => z (hi.mpr w) | exact hi.mp z) ad H locs lsr hM hS hl h1 (ztl (ztl h2))
theorem zv_icmp_eq (C : zCx M Post G) {x y off : Int} (tgt : Nat) (hd : decode M.2.1 pc = .ok (.if_icmp .eq off, 3)) (ht : (pc : Int) + off = (tgt : Int)) (kt : x = y → zV G tgt ls st T FR AR FI AI k n) (kf : ¬ x = y → zV G (pc + 3) ls st T FR AR FI AI k n) : zV G pc ls (zI y :: zI x :: st) T FR AR FI AI k n := by
  obtain ⟨p, l, e, R, s, m, args, below, meth, c, Q, A, D, cs, T0, ad0⟩ := G
  obtain ⟨hx, hb, hml, hr, hlk, hnm, hown, hts, hK, hA, hR, hQ, hSt, hfl⟩ := C
  intro ad H locs lsr hM hS hl h1 h2
  have hi := (z32eq (zhd (ztl h2)) (zhd h2))
  refine lv_icmp_eq (tgt := tgt) hx hb hd ht (fun z => ?_) (fun z => ?_)
  · exact kt (by first | exact hi.mp z | exact fun w => z (hi.mpr w)) ad H locs lsr hM hS hl h1 (ztl (ztl h2))
  · exact kf (by first | exact fun w => z (hi.mpr w) | exact hi.mp z) ad H locs lsr hM hS hl h1 (ztl (ztl h2))
theorem zv_icmp_ne (C : zCx M Post G) {x y off : Int} (tgt : Nat) (hd : decode M.2.1 pc = .ok (.if_icmp .ne off, 3)) (ht : (pc : Int) + off = (tgt : Int)) (kt : ¬ x = y → zV G tgt ls st T FR AR FI AI k n) (kf : x = y → zV G (pc + 3) ls st T FR AR FI AI k n) : zV G pc ls (zI y :: zI x :: st) T FR AR FI AI k n := by
  obtain ⟨p, l, e, R, s, m, args, below, meth, c, Q, A, D, cs, T0, ad0⟩ := G
  obtain ⟨hx, hb, hml, hr, hlk, hnm, hown, hts, hK, hA, hR, hQ, hSt, hfl⟩ := C
  intro ad H locs lsr hM hS hl h1 h2
  have hi := (z32eq (zhd (ztl h2)) (zhd h2))
  refine lv_icmp_ne (tgt := tgt) hx hb hd ht (fun z => ?_) (fun z => ?_)
  · exact kt (by first | exact hi.mp z | exact fun w => z (hi.mpr w)) ad H locs lsr hM hS hl h1 (ztl (ztl h2))
  · exact kf (by first | exact fun w => z (hi.mpr w) | exact hi.mp z) ad H locs lsr hM hS hl h1 (ztl (ztl h2))
theorem zv_if_lt (C : zCx M Post G) {x off : Int} (tgt : Nat) (hd : decode M.2.1 pc = .ok (.ifCond .lt off, 3)) (ht : (pc : Int) + off = (tgt : Int)) (kt : x < 0 → zV G tgt ls st T FR AR FI AI k n) (kf : ¬ x < 0 → zV G (pc + 3) ls st T FR AR FI AI k n) : zV G pc ls (zI x :: st) T FR AR FI AI k n := by
  obtain ⟨p, l, e, R, s, m, args, below, meth, c, Q, A, D, cs, T0, ad0⟩ := G
  obtain ⟨hx, hb, hml, hr, hlk, hnm, hown, hts, hK, hA, hR, hQ, hSt, hfl⟩ := C
  intro ad H locs lsr hM hS hl h1 h2
  have hi := (z32lt (zhd h2) zr0)
  refine lv_if_lt (tgt := tgt) hx hb hd ht (fun z => ?_) (fun z => ?_)
  · exact kt (by first | exact hi.mp z | exact fun w => z (hi.mpr w)) ad H locs lsr hM hS hl h1 (ztl h2)
  · exact kf (by first | exact fun w => z (hi.mpr w) | exact hi.mp z) ad H locs lsr hM hS hl h1 (ztl h2)
theorem zv_if_ge (C : zCx M Post G) {x off : Int} (tgt : Nat) (hd : decode M.2.1 pc = .ok (.ifCond .ge off, 3)) (ht : (pc : Int) + off = (tgt : Int)) (kt : 0 ≤ x → zV G tgt ls st T FR AR FI AI k n) (kf : ¬ 0 ≤ x → zV G (pc + 3) ls st T FR AR FI AI k n) : zV G pc ls (zI x :: st) T FR AR FI AI k n := by
  obtain ⟨p, l, e, R, s, m, args, below, meth, c, Q, A, D, cs, T0, ad0⟩ := G
  obtain ⟨hx, hb, hml, hr, hlk, hnm, hown, hts, hK, hA, hR, hQ, hSt, hfl⟩ := C
  intro ad H locs lsr hM hS hl h1 h2
  have hi := (z32le zr0 (zhd h2))
  refine lv_if_ge (tgt := tgt) hx hb hd ht (fun z => ?_) (fun z => ?_)
  · exact kt (by first | exact hi.mp z | exact fun w => z (hi.mpr w)) ad H locs lsr hM hS hl h1 (ztl h2)
  · exact kf (by first | exact fun w => z (hi.mpr w) | exact hi.mp z) ad H locs lsr hM hS hl h1 (ztl h2)
theorem zv_if_gt (C : zCx M Post G) {x off : Int} (tgt : Nat) (hd : decode M.2.1 pc = .ok (.ifCond .gt off, 3)) (ht : (pc : Int) + off = (tgt : Int)) (kt : 0 < x → zV G tgt ls st T FR AR FI AI k n) (kf : ¬ 0 < x → zV G (pc + 3) ls st T FR AR FI AI k n) : zV G pc ls (zI x :: st) T FR AR FI AI k n := by
  obtain ⟨p, l, e, R, s, m, args, below, meth, c, Q, A, D, cs, T0, ad0⟩ := G
  obtain ⟨hx, hb, hml, hr, hlk, hnm, hown, hts, hK, hA, hR, hQ, hSt, hfl⟩ := C
  intro ad H locs lsr hM hS hl h1 h2
  have hi := (z32lt zr0 (zhd h2))
  refine lv_if_gt (tgt := tgt) hx hb hd ht (fun z => ?_) (fun z => ?_)
  · exact kt (by first | exact hi.mp z | exact fun w => z (hi.mpr w)) ad H locs lsr hM hS hl h1 (ztl h2)
  · exact kf (by first | exact fun w => z (hi.mpr w) | exact hi.mp z) ad H locs lsr hM hS hl h1 (ztl h2)
theorem zv_if_le (C : zCx M Post G) {x off : Int} (tgt : Nat) (hd : decode M.2.1 pc = .ok (.ifCond .le off, 3)) (ht : (pc : Int) + off = (tgt : Int)) (kt : x ≤ 0 → zV G tgt ls st T FR AR FI AI k n) (kf : ¬ x ≤ 0 → zV G (pc + 3) ls st T FR AR FI AI k n) : zV G pc ls (zI x :: st) T FR AR FI AI k n := by
  obtain ⟨p, l, e, R, s, m, args, below, meth, c, Q, A, D, cs, T0, ad0⟩ := G
  obtain ⟨hx, hb, hml, hr, hlk, hnm, hown, hts, hK, hA, hR, hQ, hSt, hfl⟩ := C
  intro ad H locs lsr hM hS hl h1 h2
  have hi := (z32le (zhd h2) zr0)
  refine lv_if_le (tgt := tgt) hx hb hd ht (fun z => ?_) (fun z => ?_)
  · exact kt (by first | exact hi.mp z | exact fun w => z (hi.mpr w)) ad H locs lsr hM hS hl h1 (ztl h2)
  · exact kf (by first | exact fun w => z (hi.mpr w) | exact hi.mp z) ad H locs lsr hM hS hl h1 (ztl h2)
theorem zv_if_eq (C : zCx M Post G) {x off : Int} (tgt : Nat) (hd : decode M.2.1 pc = .ok (.ifCond .eq off, 3)) (ht : (pc : Int) + off = (tgt : Int)) (kt : x = 0 → zV G tgt ls st T FR AR FI AI k n) (kf : ¬ x = 0 → zV G (pc + 3) ls st T FR AR FI AI k n) : zV G pc ls (zI x :: st) T FR AR FI AI k n := by
  obtain ⟨p, l, e, R, s, m, args, below, meth, c, Q, A, D, cs, T0, ad0⟩ := G
  obtain ⟨hx, hb, hml, hr, hlk, hnm, hown, hts, hK, hA, hR, hQ, hSt, hfl⟩ := C
  intro ad H locs lsr hM hS hl h1 h2
  have hi := (z32eq (zhd h2) zr0)
  refine lv_if_eq (tgt := tgt) hx hb hd ht (fun z => ?_) (fun z => ?_)
  · exact kt (by first | exact hi.mp z | exact fun w => z (hi.mpr w)) ad H locs lsr hM hS hl h1 (ztl h2)
  · exact kf (by first | exact fun w => z (hi.mpr w) | exact hi.mp z) ad H locs lsr hM hS hl h1 (ztl h2)
theorem zv_if_ne (C : zCx M Post G) {x off : Int} (tgt : Nat) (hd : decode M.2.1 pc = .ok (.ifCond .ne off, 3)) (ht : (pc : Int) + off = (tgt : Int)) (kt : ¬ x = 0 → zV G tgt ls st T FR AR FI AI k n) (kf : x = 0 → zV G (pc + 3) ls st T FR AR FI AI k n) : zV G pc ls (zI x :: st) T FR AR FI AI k n := by
  obtain ⟨p, l, e, R, s, m, args, below, meth, c, Q, A, D, cs, T0, ad0⟩ := G
  obtain ⟨hx, hb, hml, hr, hlk, hnm, hown, hts, hK, hA, hR, hQ, hSt, hfl⟩ := C
  intro ad H locs lsr hM hS hl h1 h2
  have hi := (z32eq (zhd h2) zr0)
  refine lv_if_ne (tgt := tgt) hx hb hd ht (fun z => ?_) (fun z => ?_)
  · exact kt (by first | exact hi.mp z | exact fun w => z (hi.mpr w)) ad H locs lsr hM hS hl h1 (ztl h2)
  · exact kf (by first | exact fun w => z (hi.mpr w) | exact hi.mp z) ad H locs lsr hM hS hl h1 (ztl h2)
theorem zv_goto (C : zCx M Post G) {off : Int} (tgt : Nat) (hd : decode M.2.1 pc = .ok (.goto off, 3)) (ht : (pc : Int) + off = (tgt : Int)) (kk : zV G tgt ls st T FR AR FI AI k n) : zV G pc ls st T FR AR FI AI k n := by
  obtain ⟨p, l, e, R, s, m, args, below, meth, c, Q, A, D, cs, T0, ad0⟩ := G
  obtain ⟨hx, hb, hml, hr, hlk, hnm, hown, hts, hK, hA, hR, hQ, hSt, hfl⟩ := C
  intro ad H locs lsr hM hS hl h1 h2
  exact lv_goto hx hb hd ht (kk ad H locs lsr hM hS hl h1 h2)
theorem zv_tableIn (C : zCx M Post G) {x off dflt lo hi : Int} {offs : Array Int} {len : Nat} (tgt : Nat) (hd : decode M.2.1 pc = .ok (.tableswitch dflt lo hi offs, len)) (g1 : lo ≤ x) (g2 : x ≤ hi) (ho : offs[(x - lo).toNat]? = some off) (ht : (pc : Int) + off = (tgt : Int)) (kk : zV G tgt ls st T FR AR FI AI k n) : zV G pc ls (zI x :: st) T FR AR FI AI k n := by
  obtain ⟨p, l, e, R, s, m, args, below, meth, c, Q, A, D, cs, T0, ad0⟩ := G
  obtain ⟨hx, hb, hml, hr, hlk, hnm, hown, hts, hK, hA, hR, hQ, hSt, hfl⟩ := C
  intro ad H locs lsr hM hS hl h1 h2
  have e1 := z32 (zhd h2)
  exact lv_tableIn hx hb hd (by rw [e1]; omega) (by rw [e1]; omega) (by rw [e1]; exact ho) ht (kk ad H locs lsr hM hS hl h1 (ztl h2))
theorem zv_tableOut (C : zCx M Post G) {x dflt lo hi : Int} {offs : Array Int} {len : Nat} (tgt : Nat) (hd : decode M.2.1 pc = .ok (.tableswitch dflt lo hi offs, len)) (g1 : x < lo ∨ hi < x) (ht : (pc : Int) + dflt = (tgt : Int)) (kk : zV G tgt ls st T FR AR FI AI k n) : zV G pc ls (zI x :: st) T FR AR FI AI k n := by
  obtain ⟨p, l, e, R, s, m, args, below, meth, c, Q, A, D, cs, T0, ad0⟩ := G
  obtain ⟨hx, hb, hml, hr, hlk, hnm, hown, hts, hK, hA, hR, hQ, hSt, hfl⟩ := C
  intro ad H locs lsr hM hS hl h1 h2
  have e1 := z32 (zhd h2)
  exact lv_tableOut hx hb hd (by rw [e1]; exact g1) ht (kk ad H locs lsr hM hS hl h1 (ztl h2))
theorem zv_lookup (C : zCx M Post G) {x off dflt : Int} {ps : Array (Int × Int)} {len : Nat} (tgt : Nat) (hd : decode M.2.1 pc = .ok (.lookupswitch dflt ps, len)) (hp : (ps.toList.zip (ps.toList.drop 1)).all (fun (a, next) => a.1 < next.1) = true) (ho : Op.lookupswitch.offset ps.toList dflt x = off) (ht : (pc : Int) + off = (tgt : Int)) (kk : zV G tgt ls st T FR AR FI AI k n) : zV G pc ls (zI x :: st) T FR AR FI AI k n := by
  obtain ⟨p, l, e, R, s, m, args, below, meth, c, Q, A, D, cs, T0, ad0⟩ := G
  obtain ⟨hx, hb, hml, hr, hlk, hnm, hown, hts, hK, hA, hR, hQ, hSt, hfl⟩ := C
  intro ad H locs lsr hM hS hl h1 h2
  have e1 := z32 (zhd h2)
  exact lv_lookup hx hb hd hp (by rw [e1]; exact ho) ht (kk ad H locs lsr hM hS hl h1 (ztl h2))
theorem zv_dup (C : zCx M Post G) {v : zVal} (hd : decode M.2.1 pc = .ok (.dup, 1)) (hc : zcat v = 1) (kk : zV G (pc + 1) ls (v :: v :: st) T FR AR FI AI k n) : zV G pc ls (v :: st) T FR AR FI AI k n := by
  obtain ⟨p, l, e, R, s, m, args, below, meth, c, Q, A, D, cs, T0, ad0⟩ := G
  obtain ⟨hx, hb, hml, hr, hlk, hnm, hown, hts, hK, hA, hR, hQ, hSt, hfl⟩ := C
  intro ad H locs lsr hM hS hl h1 h2
  exact lv_dup hx hb hd (by rw [zcat_ok]; exact hc) (kk ad H locs lsr hM hS hl h1 (zcons (zhd h2) h2))
theorem zv_dup2 (C : zCx M Post G) {v w : zVal} (hd : decode M.2.1 pc = .ok (.dup2, 1)) (hc : zcat v = 1) (hc2 : zcat w = 1) (kk : zV G (pc + 1) ls (v :: w :: v :: w :: st) T FR AR FI AI k n) : zV G pc ls (v :: w :: st) T FR AR FI AI k n := by
  obtain ⟨p, l, e, R, s, m, args, below, meth, c, Q, A, D, cs, T0, ad0⟩ := G
  obtain ⟨hx, hb, hml, hr, hlk, hnm, hown, hts, hK, hA, hR, hQ, hSt, hfl⟩ := C
  intro ad H locs lsr hM hS hl h1 h2
  exact lv_dup2_11 hx hb hd (by rw [zcat_ok]; exact hc) (by rw [zcat_ok]; exact hc2) (kk ad H locs lsr hM hS hl h1 (zcons (zhd h2) (zcons (zhd (ztl h2)) h2)))
theorem zv_pop (C : zCx M Post G) {v : zVal} (hd : decode M.2.1 pc = .ok (.pop, 1)) (hc : zcat v = 1) (kk : zV G (pc + 1) ls st T FR AR FI AI k n) : zV G pc ls (v :: st) T FR AR FI AI k n := by
  obtain ⟨p, l, e, R, s, m, args, below, meth, c, Q, A, D, cs, T0, ad0⟩ := G
  obtain ⟨hx, hb, hml, hr, hlk, hnm, hown, hts, hK, hA, hR, hQ, hSt, hfl⟩ := C
  intro ad H locs lsr hM hS hl h1 h2
  exact lv_pop hx hb hd (by rw [zcat_ok]; exact hc) (kk ad H locs lsr hM hS hl h1 (ztl h2))
theorem zv_ifnull (C : zCx M Post G) {r : Option Nat} {off : Int} (tgt : Nat) (hd : decode M.2.1 pc = .ok (.ifnull off, 3)) (ht : (pc : Int) + off = (tgt : Int)) (kt : r = none → zV G tgt ls st T FR AR FI AI k n) (kf : ∀ a, r = some a → zV G (pc + 3) ls st T FR AR FI AI k n) : zV G pc ls (zP r :: st) T FR AR FI AI k n := by
  obtain ⟨p, l, e, R, s, m, args, below, meth, c, Q, A, D, cs, T0, ad0⟩ := G
  obtain ⟨hx, hb, hml, hr, hlk, hnm, hown, hts, hK, hA, hR, hQ, hSt, hfl⟩ := C
  intro ad H locs lsr hM hS hl h1 h2
  cases r with
  | none => exact lv_ifnullN hx hb hd ht (kt rfl ad H locs lsr hM hS hl h1 (ztl h2))
  | some a => exact lv_ifnull hx hb hd (kf a rfl ad H locs lsr hM hS hl h1 (ztl h2))
theorem zv_ifnonnull (C : zCx M Post G) {r : Option Nat} {off : Int} (tgt : Nat) (hd : decode M.2.1 pc = .ok (.ifnonnull off, 3)) (ht : (pc : Int) + off = (tgt : Int)) (kt : ∀ a, r = some a → zV G tgt ls st T FR AR FI AI k n) (kf : r = none → zV G (pc + 3) ls st T FR AR FI AI k n) : zV G pc ls (zP r :: st) T FR AR FI AI k n := by
  obtain ⟨p, l, e, R, s, m, args, below, meth, c, Q, A, D, cs, T0, ad0⟩ := G
  obtain ⟨hx, hb, hml, hr, hlk, hnm, hown, hts, hK, hA, hR, hQ, hSt, hfl⟩ := C
  intro ad H locs lsr hM hS hl h1 h2
  cases r with
  | none => exact lv_ifnonnullN hx hb hd (kf rfl ad H locs lsr hM hS hl h1 (ztl h2))
  | some a => exact lv_ifnonnull hx hb hd ht (kt a rfl ad H locs lsr hM hS hl h1 (ztl h2))
theorem zv_ifnonnullA (C : zCx M Post G) {a : Nat} {off : Int} (tgt : Nat) (hd : decode M.2.1 pc = .ok (.ifnonnull off, 3)) (ht : (pc : Int) + off = (tgt : Int)) (kt : zV G tgt ls st T FR AR FI AI k n) : zV G pc ls (zA a :: st) T FR AR FI AI k n := by
  obtain ⟨p, l, e, R, s, m, args, below, meth, c, Q, A, D, cs, T0, ad0⟩ := G
  obtain ⟨hx, hb, hml, hr, hlk, hnm, hown, hts, hK, hA, hR, hQ, hSt, hfl⟩ := C
  intro ad H locs lsr hM hS hl h1 h2
  exact lv_ifnonnull hx hb hd ht (kt ad H locs lsr hM hS hl h1 (ztl h2))
theorem zv_acmp_neA (C : zCx M Post G) {a b : Nat} {off : Int} (tgt : Nat) (hd : decode M.2.1 pc = .ok (.if_acmp .ne off, 3)) (ht : (pc : Int) + off = (tgt : Int)) (ha : a < 7) (hb7 : b < 7) (kt : ¬ a = b → zV G tgt ls st T FR AR FI AI k n) (kf : a = b → zV G (pc + 3) ls st T FR AR FI AI k n) : zV G pc ls (zA b :: zA a :: st) T FR AR FI AI k n := by
  obtain ⟨p, l, e, R, s, m, args, below, meth, c, Q, A, D, cs, T0, ad0⟩ := G
  obtain ⟨hx, hb, hml, hr, hlk, hnm, hown, hts, hK, hA, hR, hQ, hSt, hfl⟩ := C
  intro ad H locs lsr hM hS hl h1 h2
  obtain ⟨L, hnd, hL, hP, hD, hrg, hT0⟩ := id hM
  refine lv_acmp_ne (rx := some (ad (zb + a))) (ry := some (ad (zb + b))) (tgt := tgt) hx hb hd ht (fun z => ?_) (fun z => ?_)
  · exact kt (fun w => z (by rw [w])) ad H locs lsr hM hS hl h1 (ztl (ztl h2))
  · refine kf (hSt.2.2.1 a b ha hb7 ?_) ad H locs lsr hM hS hl h1 (ztl (ztl h2))
    have := Option.some.inj z
    rw [hT0.2 a, hT0.2 b] at this
    exact this
theorem zWQ {p : Program} {l : Launch} {e : Env} {R : Room} {s : State} {m : MethodId} {args : Array Value} {below : List Frame} {meth : Method} {c : Code} {H : Heap} {locs : List Loc} {Q Q' : State → Prop} {g : JFrame} (hQ : ∀ t, Q t → Q' t) (h : W p l e R s m args below meth c H locs k n Q g) : W p l e R s m args below meth c H locs k n Q' g := fun U hU X => by
  obtain ⟨t, a, b⟩ := h U hU X
  exact ⟨t, a, hQ t b⟩
theorem zv_ireturn (C : zCx M Post G) {x : Int} {ty : FieldType} (hd : decode M.2.1 pc = .ok (.ireturn, 1)) (hty : M.2.2.2.1 = some ty) (hn : narrow ty (.int (Int32.ofInt x)) = .int (Int32.ofInt x)) (hk : Nat.ble k M.2.2.2.2.cells = true) (hk2 : Nat.ble n M.2.2.2.2.slots = true) (hp : Post (zI x) T FR AR FI AI) : zV G pc ls [zI x] T FR AR FI AI k n := by
  obtain ⟨p, l, e, R, s, m, args, below, meth, c, Q, A, D, cs, T0, ad0⟩ := G
  obtain ⟨hx, hb, hml, hr, hlk, hnm, hown, hts, hK, hA, hR, hQ, hSt, hfl⟩ := C
  intro ad H locs lsr hM hS hl h1 h2
  refine zWQ hQ (W.widen (Nat.le_of_ble_eq_true hk) (Nat.le_of_ble_eq_true hk2) ?_)
  exact W.zret hx hb (hr.trans hty) hn (fun t ht _ => ⟨⟨zI x, T, FR, AR, FI, AI, ad, by rw [hty]; rfl, hp, by rw [ht]; exact hM, zhd h2⟩, hS.F ht⟩) hS.2.2 hd
theorem zv_lreturn (C : zCx M Post G) {x : Int} (hd : decode M.2.1 pc = .ok (.lreturn, 1)) (hty : M.2.2.2.1 = some .long) (hk : Nat.ble k M.2.2.2.2.cells = true) (hk2 : Nat.ble n M.2.2.2.2.slots = true) (hp : Post (zL x) T FR AR FI AI) : zV G pc ls [zL x] T FR AR FI AI k n := by
  obtain ⟨p, l, e, R, s, m, args, below, meth, c, Q, A, D, cs, T0, ad0⟩ := G
  obtain ⟨hx, hb, hml, hr, hlk, hnm, hown, hts, hK, hA, hR, hQ, hSt, hfl⟩ := C
  intro ad H locs lsr hM hS hl h1 h2
  refine zWQ hQ (W.widen (Nat.le_of_ble_eq_true hk) (Nat.le_of_ble_eq_true hk2) ?_)
  exact W.lret hx hb (hr.trans hty) (fun t ht _ => ⟨⟨zL x, T, FR, AR, FI, AI, ad, by rw [hty]; rfl, hp, by rw [ht]; exact hM, zhd h2⟩, hS.F ht⟩) hS.2.2 hd
theorem zv_areturn (C : zCx M Post G) {v : zVal} {C0 : String} (hd : decode M.2.1 pc = .ok (.areturn, 1)) (hty : M.2.2.2.1 = some (.object C0)) (hq : zrefq v = true) (hk : Nat.ble k M.2.2.2.2.cells = true) (hk2 : Nat.ble n M.2.2.2.2.slots = true) (hp : Post v T FR AR FI AI) : zV G pc ls [v] T FR AR FI AI k n := by
  obtain ⟨p, l, e, R, s, m, args, below, meth, c, Q, A, D, cs, T0, ad0⟩ := G
  obtain ⟨hx, hb, hml, hr, hlk, hnm, hown, hts, hK, hA, hR, hQ, hSt, hfl⟩ := C
  intro ad H locs lsr hM hS hl h1 h2
  refine zWQ hQ (W.widen (Nat.le_of_ble_eq_true hk) (Nat.le_of_ble_eq_true hk2) ?_)
  exact W.aret hx hb (hr.trans hty) (Or.inl ⟨_, rfl⟩) (zrefq_or ad hq) (fun t ht _ => ⟨⟨v, T, FR, AR, FI, AI, ad, by rw [hty]; rfl, hp, by rw [ht]; exact hM, zhd h2⟩, hS.F ht⟩) hS.2.2 hd
theorem zv_return (C : zCx M Post G) (hd : decode M.2.1 pc = .ok (.return_, 1)) (hty : M.2.2.2.1 = none) (hk : Nat.ble k M.2.2.2.2.cells = true) (hk2 : Nat.ble n M.2.2.2.2.slots = true) (hp : Post (zI 0) T FR AR FI AI) : zV G pc ls [] T FR AR FI AI k n := by
  obtain ⟨p, l, e, R, s, m, args, below, meth, c, Q, A, D, cs, T0, ad0⟩ := G
  obtain ⟨hx, hb, hml, hr, hlk, hnm, hown, hts, hK, hA, hR, hQ, hSt, hfl⟩ := C
  intro ad H locs lsr hM hS hl h1 h2
  refine zWQ hQ (W.widen (Nat.le_of_ble_eq_true hk) (Nat.le_of_ble_eq_true hk2) ?_)
  exact W.vret hx hb (hr.trans hty) (fun t ht _ => ⟨⟨zI 0, T, FR, AR, FI, AI, ad, by rw [hty]; rfl, hp, by rw [ht]; exact hM, zr0⟩, hS.F ht⟩) hS.2.2 hd
theorem zv_widen {k' n' : Nat} (hk : k ≤ k') (hn : n ≤ n') (kk : zV G pc ls st T FR AR FI AI k' n') : zV G pc ls st T FR AR FI AI k n := by
  obtain ⟨p, l, e, R, s, m, args, below, meth, c, Q, A, D, cs, T0, ad0⟩ := G
  intro ad H locs lsr hM hS hl h1 h2
  exact W.widen hk hn (kk ad H locs lsr hM hS hl h1 h2)
/-- a name for what stands on the stack, in the heap: forget how it came -/
theorem zv_eq {pc' : Nat} {ls' : List (Option zVal)} {st' : List zVal} {FI' : zFI} {AI' : zAI} (e0 : pc = pc') (e1 : ls = ls') (e2 : st = st') (e3 : FI = FI') (e4 : AI = AI') (kk : zV G pc' ls' st' T FR AR FI' AI' k n) : zV G pc ls st T FR AR FI AI k n := by subst e0; subst e1; subst e2; subst e3; subst e4; exact kk
end ZRows
