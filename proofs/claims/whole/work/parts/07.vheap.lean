def zsF (FI : zFI) (o j : Nat) (x : Int) : zFI := fun o' j' => if o' = o ∧ j' = j then x else FI o' j'
def zsA (AI : zAI) (a : Nat) (i x : Int) : zAI := fun a' i' => if a' = a ∧ i' = i then x else AI a' i'
def zsR (FR : zFR) (o j : Nat) (r : Option Nat) : zFR := fun o' j' => if o' = o ∧ j' = j then r else FR o' j'
def zsQ (AR : zAR) (a : Nat) (i : Int) (r : Option Nat) : zAR := fun a' i' => if a' = a ∧ i' = i then r else AR a' i'
def zsT (T : zTt) (h : Nat) (t : Nat × Nat) : zTt := fun k => if k = h then t else T k
def zzF (FI : zFI) (h : Nat) : zFI := fun o j => if o = h then 0 else FI o j
def zzA (AI : zAI) (h : Nat) : zAI := fun a i => if a = h then 0 else AI a i
def zzR (FR : zFR) (h : Nat) : zFR := fun o j => if o = h then none else FR o j
def zzQ (AR : zAR) (h : Nat) : zAR := fun a i => if a = h then none else AR a i
theorem zset {f g : Nat → Nat × va_E} {L : List Nat} (hn : L.Nodup) {q0 k : Nat} (hk : L[q0]? = some k) (hg : ∀ j ∈ L, j ≠ k → g j = f j) : (L.map f).set q0 (g k) = L.map g := by
  apply List.ext_getElem?
  intro i
  by_cases hi : q0 = i
  · subst hi
    obtain ⟨hlt, hv⟩ := List.getElem?_eq_some_iff.mp hk
    rw [List.getElem?_set, if_pos rfl, if_pos (by simpa using hlt), List.getElem?_map, hk]
    rfl
  · rw [List.getElem?_set_ne hi, List.getElem?_map, List.getElem?_map]
    cases hj : L[i]? with
    | none => rfl
    | some j =>
      have hne : j ≠ k := by
        intro e
        subst e
        exact hi ((List.getElem?_inj (List.getElem?_eq_some_iff.mp hk).1 hn).mp (hk.trans hj.symm))
      show some (f j) = some (g j)
      rw [hg j (List.mem_of_getElem? hj) hne]
section ZE
variable {cs : zCs} {ad : Nat → Nat} {T : zTt} {FR : zFR} {AR : zAR} {FI : zFI} {AI : zAI} {a n : Nat}
theorem zE_obj {ci : Nat} (h : T a = (1, ci)) : zE cs ad T FR AR FI AI a = .inr (ci, (List.range (znf ci)).map fun j => zfv ad FR FI a j (zty ci j)) := by simp [zE, h]
theorem zE_int (h : T a = (2, n)) : zE cs ad T FR AR FI AI a = .inl (cs.1, n, .inl fun j => Int32.ofInt (AI a (j : Int))) := by simp [zE, h]
theorem zE_byte (h : T a = (3, n)) : zE cs ad T FR AR FI AI a = .inl (cs.2.1, n, .inl fun j => Int32.ofInt (AI a (j : Int))) := by simp [zE, h]
theorem zE_long (h : T a = (4, n)) : zE cs ad T FR AR FI AI a = .inl (cs.2.2.1, n, .inr (.inl fun j => Int64.ofInt (AI a (j : Int)))) := by simp [zE, h]
theorem zE_r5 (h : T a = (5, n)) : zE cs ad T FR AR FI AI a = .inl (cs.2.2.2.1, n, .inr (.inr (.inr (.inr fun j => (AR a (j : Int)).map ad)))) := by simp [zE, h]
theorem zE_r6 (h : T a = (6, n)) : zE cs ad T FR AR FI AI a = .inl (cs.2.2.2.2, n, .inr (.inr (.inr (.inr fun j => (AR a (j : Int)).map ad)))) := by simp [zE, h]
end ZE
theorem zrangeset {N j : Nat} {f : Nat → Value} {v : Value} (hj : j < N) : ((List.range N).map f).set j v = (List.range N).map fun i => if i = j then v else f i := by
  apply List.ext_getElem?
  intro i
  by_cases hi : j = i
  · subst hi
    rw [List.getElem?_set, if_pos rfl, if_pos (by simpa using hj), List.getElem?_map, List.getElem?_range hj]
    simp
  · rw [List.getElem?_set_ne hi, List.getElem?_map, List.getElem?_map]
    cases hk : (List.range N)[i]? with
    | none => rfl
    | some q =>
      have hq : q = i := by
        have := List.getElem?_eq_some_iff.mp hk
        obtain ⟨h1, h2⟩ := this
        rw [List.getElem_range] at h2
        exact h2.symm
      subst hq
      simp [Ne.symm hi]
/-- what the tables say of a field -/
def zFd (own : String) (idx ci j : Nat) (fin : Bool) : Prop := ∃ (Cn : String) (Tc : u_T), vwCl[ci]? = some (Cn, Tc, znf ci) ∧ (∀ w ∈ u_ws Cn Tc (znf ci), w ∈ zWs) ∧ (∀ k, k < znf ci → parseFieldDescriptor (Tc k).2.2.1 = some (zty ci k)) ∧ (∀ a, a < znf ci → ∀ b, b < znf ci → a ≠ b → (Tc a).2.1 ≠ (Tc b).2.1) ∧ j < znf ci ∧ Cond.fieldLink own idx Cn (Tc j).2.1 (Tc j).2.2.1 ∈ zWs ∧ (Tc j).1 = Cn ∧ (Tc j).2.2.2 = fin
def zCl (ci : Nat) (Cn : String) (Tc : u_T) : Prop := vwCl[ci]? = some (Cn, Tc, znf ci) ∧ (∀ w ∈ u_ws Cn Tc (znf ci), w ∈ zWs) ∧ (∀ k, k < znf ci → parseFieldDescriptor (Tc k).2.2.1 = some (zty ci k)) ∧ (∀ a, a < znf ci → ∀ b, b < znf ci → a ≠ b → (Tc a).2.1 ≠ (Tc b).2.1)
theorem zFd_of {own Cn : String} {Tc : u_T} {idx ci j : Nat} {fin : Bool} (h : zCl ci Cn Tc) (h1 : Nat.blt j (znf ci) = true) (h2 : Cond.fieldLink own idx Cn (Tc j).2.1 (Tc j).2.2.1 ∈ zWs) (h3 : (Tc j).1 = Cn) (h4 : (Tc j).2.2.2 = fin) : zFd own idx ci j fin := ⟨Cn, Tc, h.1, h.2.1, h.2.2.1, h.2.2.2, Nat.le_of_ble_eq_true h1, h2, h3, h4⟩
section ZHeap
variable {M : zMd} {Post : zPost} {G : zG} {pc : Nat} {ls : List (Option zVal)} {st : List zVal} {T : zTt} {FR : zFR} {AR : zAR} {FI : zFI} {AI : zAI} {k n : Nat}
theorem zv_getI (C : zCx M Post G) {i o ci j : Nat} {fin : Bool} (hd : decode M.2.1 pc = .ok (.getfield i, 3)) (hf : zFd M.1.cls i ci j fin) (hT : T o = (1, ci)) (hty : zty ci j = .int) (kk : zV G (pc + 3) ls (zI (FI o j) :: st) T FR AR FI AI k n) : zV G pc ls (zR o :: st) T FR AR FI AI k n := by
  obtain ⟨p, l, e, R, s, m, args, below, meth, c, Q, A, D, cs, T0, ad0⟩ := G
  obtain ⟨hx, hb, hml, hr, hlk, hnm, hown, hts, hK, hA, hR, hQ, hSt, hfl⟩ := C
  intro ad H locs lsr hM hS hl h1 h2
  obtain ⟨L, hnd, hL, hP, hD, hrg, hT0⟩ := id hM
  obtain ⟨Cn, Tc, c1, c2, c3, c4, c5, c6, c7, c8⟩ := hf
  have ho : o ∈ L := (hL o).mpr (by rw [hT]; exact Nat.one_ne_zero)
  obtain ⟨q0, hq0⟩ := List.getElem?_of_mem ho
  have he : (zWd cs ad T FR AR FI AI L)[q0]? = some (ad o, .inr (ci, (List.range (znf ci)).map fun j => zfv ad FR FI o j (zty ci j))) := by rw [zWd, List.getElem?_map, hq0, ← zE_obj hT]; rfl
  exact va_get hx hb hts c2 hown hK hP q0 he c1 j c5 (hts _ c6) (fun x h => by rw [← c7]; exact h) (v := .int (Int32.ofInt (FI o j))) (by rw [List.getElem?_map, List.getElem?_range c5]; simp [zfv, hty]) hd (kk ad H locs lsr hM hS hl h1 (zcons (show zr32 (FI o j) from by have := hrg.1 o j (by rw [hT]); rw [hT, show zty ci j = .int from hty, if_neg (by decide)] at this; exact this) (ztl h2)))
theorem zv_getL (C : zCx M Post G) {i o ci j : Nat} {fin : Bool} (hd : decode M.2.1 pc = .ok (.getfield i, 3)) (hf : zFd M.1.cls i ci j fin) (hT : T o = (1, ci)) (hty : zty ci j = .long) (kk : zV G (pc + 3) ls (zL (FI o j) :: st) T FR AR FI AI k n) : zV G pc ls (zR o :: st) T FR AR FI AI k n := by
  obtain ⟨p, l, e, R, s, m, args, below, meth, c, Q, A, D, cs, T0, ad0⟩ := G
  obtain ⟨hx, hb, hml, hr, hlk, hnm, hown, hts, hK, hA, hR, hQ, hSt, hfl⟩ := C
  intro ad H locs lsr hM hS hl h1 h2
  obtain ⟨L, hnd, hL, hP, hD, hrg, hT0⟩ := id hM
  obtain ⟨Cn, Tc, c1, c2, c3, c4, c5, c6, c7, c8⟩ := hf
  have ho : o ∈ L := (hL o).mpr (by rw [hT]; exact Nat.one_ne_zero)
  obtain ⟨q0, hq0⟩ := List.getElem?_of_mem ho
  have he : (zWd cs ad T FR AR FI AI L)[q0]? = some (ad o, .inr (ci, (List.range (znf ci)).map fun j => zfv ad FR FI o j (zty ci j))) := by rw [zWd, List.getElem?_map, hq0, ← zE_obj hT]; rfl
  exact va_get hx hb hts c2 hown hK hP q0 he c1 j c5 (hts _ c6) (fun x h => by rw [← c7]; exact h) (v := .long (Int64.ofInt (FI o j))) (by rw [List.getElem?_map, List.getElem?_range c5]; simp [zfv, hty]) hd (kk ad H locs lsr hM hS hl h1 (zcons (show zr64 (FI o j) from by have := hrg.1 o j (by rw [hT]); rw [hT, show zty ci j = .long from hty, if_pos rfl] at this; exact this) (ztl h2)))
def zisr : FieldType → Bool
  | .object _ => true
  | .array _ => true
  | _ => false
theorem zfv_r {ad : Nat → Nat} {ty : FieldType} {o j : Nat} (h : zisr ty = true) : zfv ad FR FI o j ty = va_rf ((FR o j).map ad) := by cases ty <;> first | rfl | cases h
theorem zv_getP (C : zCx M Post G) {i o ci j : Nat} {fin : Bool} (hd : decode M.2.1 pc = .ok (.getfield i, 3)) (hf : zFd M.1.cls i ci j fin) (hT : T o = (1, ci)) (hty : zisr (zty ci j) = true) (kk : zV G (pc + 3) ls (zP (FR o j) :: st) T FR AR FI AI k n) : zV G pc ls (zR o :: st) T FR AR FI AI k n := by
  obtain ⟨p, l, e, R, s, m, args, below, meth, c, Q, A, D, cs, T0, ad0⟩ := G
  obtain ⟨hx, hb, hml, hr, hlk, hnm, hown, hts, hK, hA, hR, hQ, hSt, hfl⟩ := C
  intro ad H locs lsr hM hS hl h1 h2
  obtain ⟨L, hnd, hL, hP, hD, hrg, hT0⟩ := id hM
  obtain ⟨Cn, Tc, c1, c2, c3, c4, c5, c6, c7, c8⟩ := hf
  have ho : o ∈ L := (hL o).mpr (by rw [hT]; exact Nat.one_ne_zero)
  obtain ⟨q0, hq0⟩ := List.getElem?_of_mem ho
  have he : (zWd cs ad T FR AR FI AI L)[q0]? = some (ad o, .inr (ci, (List.range (znf ci)).map fun j => zfv ad FR FI o j (zty ci j))) := by rw [zWd, List.getElem?_map, hq0, ← zE_obj hT]; rfl
  exact va_get hx hb hts c2 hown hK hP q0 he c1 j c5 (hts _ c6) (fun x h => by rw [← c7]; exact h) (v := va_rf ((FR o j).map ad)) (by rw [List.getElem?_map, List.getElem?_range c5]; simp [zfv_r hty]) hd (kk ad H locs lsr hM hS hl h1 (zcons (fun b hb9 => hrg.2.2.1 o j b (by rw [hT]; exact Nat.one_ne_zero) hb9) (ztl h2)))
theorem zv_getR (C : zCx M Post G) {i o ci j b : Nat} {fin : Bool} (hd : decode M.2.1 pc = .ok (.getfield i, 3)) (hf : zFd M.1.cls i ci j fin) (hT : T o = (1, ci)) (hty : zisr (zty ci j) = true) (hb : FR o j = some b) (kk : zV G (pc + 3) ls (zR b :: st) T FR AR FI AI k n) : zV G pc ls (zR o :: st) T FR AR FI AI k n := zv_getP C hd hf hT hty (by rw [hb]; exact kk)
theorem zv_putI (C : zCx M Post G) {i o ci j : Nat} {x : Int} (hd : decode M.2.1 pc = .ok (.putfield i, 3)) (hf : zFd M.1.cls i ci j false) (hT : T o = (1, ci)) (hty : zty ci j = .int)  (kk : zV G (pc + 3) ls st T FR AR (zsF FI o j x) AI k n) : zV G pc ls (zI x :: zR o :: st) T FR AR FI AI k n := by
  obtain ⟨p, l, e, R, s, m, args, below, meth, c, Q, A, D, cs, T0, ad0⟩ := G
  obtain ⟨hx, hb, hml, hr, hlk, hnm, hown, hts, hK, hA, hR, hQ, hSt, hfl⟩ := C
  intro ad H locs lsr hM hS hl h1 h2
  obtain ⟨L, hnd, hL, hP, hD, hrg, hT0⟩ := id hM
  obtain ⟨Cn, Tc, c1, c2, c3, c4, c5, c6, c7, c8⟩ := hf
  have ho : o ∈ L := (hL o).mpr (by rw [hT]; exact Nat.one_ne_zero)
  obtain ⟨q0, hq0⟩ := List.getElem?_of_mem ho
  have he : (zWd cs ad T FR AR FI AI L)[q0]? = some (ad o, .inr (ci, (List.range (znf ci)).map fun j => zfv ad FR FI o j (zty ci j))) := by rw [zWd, List.getElem?_map, hq0, ← zE_obj hT]; rfl
  have e9 : (zWd cs ad T FR AR FI AI L).set q0 (ad o, .inr (ci, ((List.range (znf ci)).map fun j => zfv ad FR FI o j (zty ci j)).set j (.int (Int32.ofInt x)))) = zWd cs ad T FR AR (zsF FI o j x) AI L := by
    have hg := zset (f := fun k => (ad k, zE cs ad T FR AR FI AI k)) (g := fun k => (ad k, zE cs ad T FR AR (zsF FI o j x) AI k)) hnd hq0 (fun j9 _ hj9 => by show (ad j9, _) = (ad j9, _); congr 1; simp [zE, zfv, zsF, hj9])
    rw [zWd, zWd, ← hg]
    congr 3
    show Sum.inr _ = _
    rw [zE_obj hT, zrangeset c5]
    congr 2
    apply List.map_congr_left
    intro i9 _
    by_cases hi9 : i9 = j
    · subst hi9; simp [zfv, zsF, hty]
    · simp [zfv, zsF, hi9]
  refine va_put (v := .int (Int32.ofInt x)) (ty := zty ci j) hx hb hts c2 (zty ci) c3 c4 hown hK hP hD hS q0 he c1 j c5 (hts _ c6) (fun x h => by rw [← c7]; exact h) c8 (c3 j c5) (by rw [hty]; rfl) (by rw [hty]; rfl) (by simpa using c5) hd (fun H1 locs1 hP1 hD1 hS1 => ?_)
  rw [e9] at hP1 hD1
  exact kk ad H1 locs1 lsr ⟨L, hnd, hL, hP1, hD1, ⟨fun k9 j9 h9 => by
      by_cases hk9 : k9 = o ∧ j9 = j
      · obtain ⟨r1, r2⟩ := hk9; subst r1; subst r2; rw [hT, show zty ci j9 = .int from hty]; simp only [zsF, and_self, if_true]; first | exact zhd h2 | (rw [if_neg (by decide)]; exact zhd h2) | (rw [if_pos rfl]; exact zhd h2)
      · simp only [zsF, if_neg hk9]; exact hrg.1 k9 j9 h9, hrg.2⟩, hT0⟩ hS1 hl h1 (ztl (ztl h2))
theorem zv_putL (C : zCx M Post G) {i o ci j : Nat} {x : Int} (hd : decode M.2.1 pc = .ok (.putfield i, 3)) (hf : zFd M.1.cls i ci j false) (hT : T o = (1, ci)) (hty : zty ci j = .long)  (kk : zV G (pc + 3) ls st T FR AR (zsF FI o j x) AI k n) : zV G pc ls (zL x :: zR o :: st) T FR AR FI AI k n := by
  obtain ⟨p, l, e, R, s, m, args, below, meth, c, Q, A, D, cs, T0, ad0⟩ := G
  obtain ⟨hx, hb, hml, hr, hlk, hnm, hown, hts, hK, hA, hR, hQ, hSt, hfl⟩ := C
  intro ad H locs lsr hM hS hl h1 h2
  obtain ⟨L, hnd, hL, hP, hD, hrg, hT0⟩ := id hM
  obtain ⟨Cn, Tc, c1, c2, c3, c4, c5, c6, c7, c8⟩ := hf
  have ho : o ∈ L := (hL o).mpr (by rw [hT]; exact Nat.one_ne_zero)
  obtain ⟨q0, hq0⟩ := List.getElem?_of_mem ho
  have he : (zWd cs ad T FR AR FI AI L)[q0]? = some (ad o, .inr (ci, (List.range (znf ci)).map fun j => zfv ad FR FI o j (zty ci j))) := by rw [zWd, List.getElem?_map, hq0, ← zE_obj hT]; rfl
  have e9 : (zWd cs ad T FR AR FI AI L).set q0 (ad o, .inr (ci, ((List.range (znf ci)).map fun j => zfv ad FR FI o j (zty ci j)).set j (.long (Int64.ofInt x)))) = zWd cs ad T FR AR (zsF FI o j x) AI L := by
    have hg := zset (f := fun k => (ad k, zE cs ad T FR AR FI AI k)) (g := fun k => (ad k, zE cs ad T FR AR (zsF FI o j x) AI k)) hnd hq0 (fun j9 _ hj9 => by show (ad j9, _) = (ad j9, _); congr 1; simp [zE, zfv, zsF, hj9])
    rw [zWd, zWd, ← hg]
    congr 3
    show Sum.inr _ = _
    rw [zE_obj hT, zrangeset c5]
    congr 2
    apply List.map_congr_left
    intro i9 _
    by_cases hi9 : i9 = j
    · subst hi9; simp [zfv, zsF, hty]
    · simp [zfv, zsF, hi9]
  refine va_put (v := .long (Int64.ofInt x)) (ty := zty ci j) hx hb hts c2 (zty ci) c3 c4 hown hK hP hD hS q0 he c1 j c5 (hts _ c6) (fun x h => by rw [← c7]; exact h) c8 (c3 j c5) (by rw [hty]; rfl) (by rw [hty]; rfl) (by simpa using c5) hd (fun H1 locs1 hP1 hD1 hS1 => ?_)
  rw [e9] at hP1 hD1
  exact kk ad H1 locs1 lsr ⟨L, hnd, hL, hP1, hD1, ⟨fun k9 j9 h9 => by
      by_cases hk9 : k9 = o ∧ j9 = j
      · obtain ⟨r1, r2⟩ := hk9; subst r1; subst r2; rw [hT, show zty ci j9 = .long from hty]; simp only [zsF, and_self, if_true]; first | exact zhd h2 | (rw [if_neg (by decide)]; exact zhd h2) | (rw [if_pos rfl]; exact zhd h2)
      · simp only [zsF, if_neg hk9]; exact hrg.1 k9 j9 h9, hrg.2⟩, hT0⟩ hS1 hl h1 (ztl (ztl h2))
theorem zv_putP (C : zCx M Post G) {i o ci j : Nat} {r : Option Nat} (hd : decode M.2.1 pc = .ok (.putfield i, 3)) (hf : zFd M.1.cls i ci j false) (hT : T o = (1, ci)) (hty : zisr (zty ci j) = true)  (kk : zV G (pc + 3) ls st T (zsR FR o j r) AR FI AI k n) : zV G pc ls (zP r :: zR o :: st) T FR AR FI AI k n := by
  obtain ⟨p, l, e, R, s, m, args, below, meth, c, Q, A, D, cs, T0, ad0⟩ := G
  obtain ⟨hx, hb, hml, hr, hlk, hnm, hown, hts, hK, hA, hR, hQ, hSt, hfl⟩ := C
  intro ad H locs lsr hM hS hl h1 h2
  obtain ⟨L, hnd, hL, hP, hD, hrg, hT0⟩ := id hM
  obtain ⟨Cn, Tc, c1, c2, c3, c4, c5, c6, c7, c8⟩ := hf
  have ho : o ∈ L := (hL o).mpr (by rw [hT]; exact Nat.one_ne_zero)
  obtain ⟨q0, hq0⟩ := List.getElem?_of_mem ho
  have he : (zWd cs ad T FR AR FI AI L)[q0]? = some (ad o, .inr (ci, (List.range (znf ci)).map fun j => zfv ad FR FI o j (zty ci j))) := by rw [zWd, List.getElem?_map, hq0, ← zE_obj hT]; rfl
  have e9 : (zWd cs ad T FR AR FI AI L).set q0 (ad o, .inr (ci, ((List.range (znf ci)).map fun j => zfv ad FR FI o j (zty ci j)).set j (va_rf (r.map ad)))) = zWd cs ad T (zsR FR o j r) AR FI AI L := by
    have hg := zset (f := fun k => (ad k, zE cs ad T FR AR FI AI k)) (g := fun k => (ad k, zE cs ad T (zsR FR o j r) AR FI AI k)) hnd hq0 (fun j9 _ hj9 => by show (ad j9, _) = (ad j9, _); congr 1; simp [zE, zfv, zsR, hj9])
    rw [zWd, zWd, ← hg]
    congr 3
    show Sum.inr _ = _
    rw [zE_obj hT, zrangeset c5]
    congr 2
    apply List.map_congr_left
    intro i9 _
    by_cases hi9 : i9 = j
    · subst hi9; simp [zfv_r hty, zsR]
    · simp [zfv, zsR, hi9]
  refine va_put (v := va_rf (r.map ad)) (ty := zty ci j) hx hb hts c2 (zty ci) c3 c4 hown hK hP hD hS q0 he c1 j c5 (hts _ c6) (fun x h => by rw [← c7]; exact h) c8 (c3 j c5) (by cases r <;> revert hty <;> cases zty ci j <;> intro h9 <;> first | rfl | cases h9) (by cases r <;> revert hty <;> cases zty ci j <;> intro h9 <;> first | rfl | cases h9) (by simpa using c5) hd (fun H1 locs1 hP1 hD1 hS1 => ?_)
  rw [e9] at hP1 hD1
  exact kk ad H1 locs1 lsr ⟨L, hnd, hL, hP1, hD1, ⟨hrg.1, hrg.2.1, fun k9 j9 b9 h9 hb9 => by
      by_cases hk9 : k9 = o ∧ j9 = j
      · simp only [zsR, if_pos hk9] at hb9; exact (zhd h2) b9 hb9
      · simp only [zsR, if_neg hk9] at hb9; exact hrg.2.2.1 k9 j9 b9 h9 hb9, hrg.2.2.2⟩, hT0⟩ hS1 hl h1 (ztl (ztl h2))
theorem zv_putPF (C : zCx M Post G) {i o ci j : Nat} {r : Option Nat} (hd : decode M.2.1 pc = .ok (.putfield i, 3)) (hf : zFd M.1.cls i ci j true) (hT : T o = (1, ci)) (hty : zisr (zty ci j) = true) (hin0 : M.1.name = "<init>") (hcn : ∀ {Cn : String} {Tc : u_T} {N : Nat}, vwCl[ci]? = some (Cn, Tc, N) → Cn = M.1.cls) (kk : zV G (pc + 3) ls st T (zsR FR o j r) AR FI AI k n) : zV G pc ls (zP r :: zR o :: st) T FR AR FI AI k n := by
  obtain ⟨p, l, e, R, s, m, args, below, meth, c, Q, A, D, cs, T0, ad0⟩ := G
  obtain ⟨hx, hb, hml, hr, hlk, hnm, hown, hts, hK, hA, hR, hQ, hSt, hfl⟩ := C
  intro ad H locs lsr hM hS hl h1 h2
  obtain ⟨L, hnd, hL, hP, hD, hrg, hT0⟩ := id hM
  obtain ⟨Cn, Tc, c1, c2, c3, c4, c5, c6, c7, c8⟩ := hf
  have ho : o ∈ L := (hL o).mpr (by rw [hT]; exact Nat.one_ne_zero)
  obtain ⟨q0, hq0⟩ := List.getElem?_of_mem ho
  have he : (zWd cs ad T FR AR FI AI L)[q0]? = some (ad o, .inr (ci, (List.range (znf ci)).map fun j => zfv ad FR FI o j (zty ci j))) := by rw [zWd, List.getElem?_map, hq0, ← zE_obj hT]; rfl
  have e9 : (zWd cs ad T FR AR FI AI L).set q0 (ad o, .inr (ci, ((List.range (znf ci)).map fun j => zfv ad FR FI o j (zty ci j)).set j (va_rf (r.map ad)))) = zWd cs ad T (zsR FR o j r) AR FI AI L := by
    have hg := zset (f := fun k => (ad k, zE cs ad T FR AR FI AI k)) (g := fun k => (ad k, zE cs ad T (zsR FR o j r) AR FI AI k)) hnd hq0 (fun j9 _ hj9 => by show (ad j9, _) = (ad j9, _); congr 1; simp [zE, zfv, zsR, hj9])
    rw [zWd, zWd, ← hg]
    congr 3
    show Sum.inr _ = _
    rw [zE_obj hT, zrangeset c5]
    congr 2
    apply List.map_congr_left
    intro i9 _
    by_cases hi9 : i9 = j
    · subst hi9; simp [zfv_r hty, zsR]
    · simp [zfv, zsR, hi9]
  refine va_putF (v := va_rf (r.map ad)) (ty := zty ci j) hx hb hts c2 (zty ci) c3 c4 hown hK hP hD hS q0 he c1 j c5 (hts _ c6) (fun x h => by rw [← c7]; exact h) c8 (hnm.trans hin0) (c7.trans (hcn c1)) (c3 j c5) (by cases r <;> revert hty <;> cases zty ci j <;> intro h9 <;> first | rfl | cases h9) (by cases r <;> revert hty <;> cases zty ci j <;> intro h9 <;> first | rfl | cases h9) (by simpa using c5) hd (fun H1 locs1 hP1 hD1 hS1 => ?_)
  rw [e9] at hP1 hD1
  exact kk ad H1 locs1 lsr ⟨L, hnd, hL, hP1, hD1, ⟨hrg.1, hrg.2.1, fun k9 j9 b9 h9 hb9 => by
      by_cases hk9 : k9 = o ∧ j9 = j
      · simp only [zsR, if_pos hk9] at hb9; exact (zhd h2) b9 hb9
      · simp only [zsR, if_neg hk9] at hb9; exact hrg.2.2.1 k9 j9 b9 h9 hb9, hrg.2.2.2⟩, hT0⟩ hS1 hl h1 (ztl (ztl h2))
theorem zv_iaload (C : zCx M Post G) {a N : Nat} {i : Int} (hd : decode M.2.1 pc = .ok (.iaload, 1)) (hT : T a = (2, N)) (hi : 0 ≤ i ∧ i < N) (kk : zV G (pc + 1) ls (zI (AI a i) :: st) T FR AR FI AI k n) : zV G pc ls (zI i :: zR a :: st) T FR AR FI AI k n := by
  obtain ⟨p, l, e, R, s, m, args, below, meth, c, Q, A, D, cs, T0, ad0⟩ := G
  obtain ⟨hx, hb, hml, hr, hlk, hnm, hown, hts, hK, hA, hR, hQ, hSt, hfl⟩ := C
  intro ad H locs lsr hM hS hl h1 h2
  obtain ⟨L, hnd, hL, hP, hD, hrg, hT0⟩ := id hM
  have ho : a ∈ L := (hL a).mpr (by simp [hT])
  obtain ⟨q0, hq0⟩ := List.getElem?_of_mem ho
  have he : (zWd cs ad T FR AR FI AI L)[q0]? = some (ad a, .inl (cs.1, N, .inl fun j => Int32.ofInt (AI a (j : Int)))) := by rw [zWd, List.getElem?_map, hq0, ← zE_int hT]; rfl
  have hi3 : zr32 i := zhd h2
  have hin : vp_in (Int32.ofInt i) N := vp_in_iff.mpr (by rw [z32 hi3]; exact ⟨hi.1, hi.2⟩)
  have hcl : ((Int32.ofInt i).toNatClampNeg : Int) = i := by show (((Int32.ofInt i).toInt.toNat : Nat) : Int) = i; rw [z32 hi3]; exact Int.toNat_of_nonneg hi.1
  have kk' := kk ad H locs lsr hM hS hl h1 (zcons (show zr32 (AI a i) from by have := hrg.2.1 a i (by simp [hT]); rw [hT] at this; simpa using this) (ztl (ztl h2)))
  rw [List.map_cons, show zc ad (zI (AI a i)) = .int (Int32.ofInt (AI a i)) from rfl, ← hcl] at kk'
  refine va_iald hx hb hK hP q0 0 he rfl hin hd ?_
  rw [hcl] at kk' ⊢
  exact kk'
theorem zv_baload (C : zCx M Post G) {a N : Nat} {i : Int} (hd : decode M.2.1 pc = .ok (.baload, 1)) (hT : T a = (3, N)) (hi : 0 ≤ i ∧ i < N) (kk : zV G (pc + 1) ls (zI (AI a i) :: st) T FR AR FI AI k n) : zV G pc ls (zI i :: zR a :: st) T FR AR FI AI k n := by
  obtain ⟨p, l, e, R, s, m, args, below, meth, c, Q, A, D, cs, T0, ad0⟩ := G
  obtain ⟨hx, hb, hml, hr, hlk, hnm, hown, hts, hK, hA, hR, hQ, hSt, hfl⟩ := C
  intro ad H locs lsr hM hS hl h1 h2
  obtain ⟨L, hnd, hL, hP, hD, hrg, hT0⟩ := id hM
  have ho : a ∈ L := (hL a).mpr (by simp [hT])
  obtain ⟨q0, hq0⟩ := List.getElem?_of_mem ho
  have he : (zWd cs ad T FR AR FI AI L)[q0]? = some (ad a, .inl (cs.2.1, N, .inl fun j => Int32.ofInt (AI a (j : Int)))) := by rw [zWd, List.getElem?_map, hq0, ← zE_byte hT]; rfl
  have hi3 : zr32 i := zhd h2
  have hin : vp_in (Int32.ofInt i) N := vp_in_iff.mpr (by rw [z32 hi3]; exact ⟨hi.1, hi.2⟩)
  have hcl : ((Int32.ofInt i).toNatClampNeg : Int) = i := by show (((Int32.ofInt i).toInt.toNat : Nat) : Int) = i; rw [z32 hi3]; exact Int.toNat_of_nonneg hi.1
  have kk' := kk ad H locs lsr hM hS hl h1 (zcons (show zr32 (AI a i) from by have := hrg.2.1 a i (by simp [hT]); rw [hT] at this; simpa using this) (ztl (ztl h2)))
  rw [List.map_cons, show zc ad (zI (AI a i)) = .int (Int32.ofInt (AI a i)) from rfl, ← hcl] at kk'
  refine va_bald hx hb hK hP q0 1 he rfl hin hd ?_
  rw [hcl] at kk' ⊢
  exact kk'
theorem zv_laload (C : zCx M Post G) {a N : Nat} {i : Int} (hd : decode M.2.1 pc = .ok (.laload, 1)) (hT : T a = (4, N)) (hi : 0 ≤ i ∧ i < N) (kk : zV G (pc + 1) ls (zL (AI a i) :: st) T FR AR FI AI k n) : zV G pc ls (zI i :: zR a :: st) T FR AR FI AI k n := by
  obtain ⟨p, l, e, R, s, m, args, below, meth, c, Q, A, D, cs, T0, ad0⟩ := G
  obtain ⟨hx, hb, hml, hr, hlk, hnm, hown, hts, hK, hA, hR, hQ, hSt, hfl⟩ := C
  intro ad H locs lsr hM hS hl h1 h2
  obtain ⟨L, hnd, hL, hP, hD, hrg, hT0⟩ := id hM
  have ho : a ∈ L := (hL a).mpr (by simp [hT])
  obtain ⟨q0, hq0⟩ := List.getElem?_of_mem ho
  have he : (zWd cs ad T FR AR FI AI L)[q0]? = some (ad a, .inl (cs.2.2.1, N, .inr (.inl fun j => Int64.ofInt (AI a (j : Int))))) := by rw [zWd, List.getElem?_map, hq0, ← zE_long hT]; rfl
  have hi3 : zr32 i := zhd h2
  have hin : vp_in (Int32.ofInt i) N := vp_in_iff.mpr (by rw [z32 hi3]; exact ⟨hi.1, hi.2⟩)
  have hcl : ((Int32.ofInt i).toNatClampNeg : Int) = i := by show (((Int32.ofInt i).toInt.toNat : Nat) : Int) = i; rw [z32 hi3]; exact Int.toNat_of_nonneg hi.1
  have kk' := kk ad H locs lsr hM hS hl h1 (zcons (show zr64 (AI a i) from by have := hrg.2.1 a i (by simp [hT]); rw [hT] at this; simpa using this) (ztl (ztl h2)))
  rw [List.map_cons, show zc ad (zL (AI a i)) = .long (Int64.ofInt (AI a i)) from rfl, ← hcl] at kk'
  refine va_lald hx hb hK hP q0 2 he rfl hin hd ?_
  rw [hcl] at kk' ⊢
  exact kk'
theorem zv_aaload5 (C : zCx M Post G) {a N : Nat} {i : Int} (hd : decode M.2.1 pc = .ok (.aaload, 1)) (hT : T a = (5, N)) (hi : 0 ≤ i ∧ i < N) (kk : zV G (pc + 1) ls (zP (AR a i) :: st) T FR AR FI AI k n) : zV G pc ls (zI i :: zR a :: st) T FR AR FI AI k n := by
  obtain ⟨p, l, e, R, s, m, args, below, meth, c, Q, A, D, cs, T0, ad0⟩ := G
  obtain ⟨hx, hb, hml, hr, hlk, hnm, hown, hts, hK, hA, hR, hQ, hSt, hfl⟩ := C
  intro ad H locs lsr hM hS hl h1 h2
  obtain ⟨L, hnd, hL, hP, hD, hrg, hT0⟩ := id hM
  have ho : a ∈ L := (hL a).mpr (by simp [hT])
  obtain ⟨q0, hq0⟩ := List.getElem?_of_mem ho
  have he : (zWd cs ad T FR AR FI AI L)[q0]? = some (ad a, .inl (cs.2.2.2.1, N, .inr (.inr (.inr (.inr fun j => (AR a (j : Int)).map ad))))) := by rw [zWd, List.getElem?_map, hq0, ← zE_r5 hT]; rfl
  have hi3 : zr32 i := zhd h2
  have hin : vp_in (Int32.ofInt i) N := vp_in_iff.mpr (by rw [z32 hi3]; exact ⟨hi.1, hi.2⟩)
  have hcl : ((Int32.ofInt i).toNatClampNeg : Int) = i := by show (((Int32.ofInt i).toInt.toNat : Nat) : Int) = i; rw [z32 hi3]; exact Int.toNat_of_nonneg hi.1
  have kk' := kk ad H locs lsr hM hS hl h1 (zcons (show zok T (zP (AR a i)) from fun b hb9 => hrg.2.2.2 a i b (by simp [hT]) hb9) (ztl (ztl h2)))
  rw [List.map_cons, show zc ad (zP (AR a i)) = va_rf ((AR a i).map ad) from rfl] at kk'
  refine va_aldq hx hb hK hP q0 3 he rfl hin hd ?_
  rw [hcl]
  exact kk'
theorem zv_aaload6 (C : zCx M Post G) {a N : Nat} {i : Int} (hd : decode M.2.1 pc = .ok (.aaload, 1)) (hT : T a = (6, N)) (hi : 0 ≤ i ∧ i < N) (kk : zV G (pc + 1) ls (zP (AR a i) :: st) T FR AR FI AI k n) : zV G pc ls (zI i :: zR a :: st) T FR AR FI AI k n := by
  obtain ⟨p, l, e, R, s, m, args, below, meth, c, Q, A, D, cs, T0, ad0⟩ := G
  obtain ⟨hx, hb, hml, hr, hlk, hnm, hown, hts, hK, hA, hR, hQ, hSt, hfl⟩ := C
  intro ad H locs lsr hM hS hl h1 h2
  obtain ⟨L, hnd, hL, hP, hD, hrg, hT0⟩ := id hM
  have ho : a ∈ L := (hL a).mpr (by simp [hT])
  obtain ⟨q0, hq0⟩ := List.getElem?_of_mem ho
  have he : (zWd cs ad T FR AR FI AI L)[q0]? = some (ad a, .inl (cs.2.2.2.2, N, .inr (.inr (.inr (.inr fun j => (AR a (j : Int)).map ad))))) := by rw [zWd, List.getElem?_map, hq0, ← zE_r6 hT]; rfl
  have hi3 : zr32 i := zhd h2
  have hin : vp_in (Int32.ofInt i) N := vp_in_iff.mpr (by rw [z32 hi3]; exact ⟨hi.1, hi.2⟩)
  have hcl : ((Int32.ofInt i).toNatClampNeg : Int) = i := by show (((Int32.ofInt i).toInt.toNat : Nat) : Int) = i; rw [z32 hi3]; exact Int.toNat_of_nonneg hi.1
  have kk' := kk ad H locs lsr hM hS hl h1 (zcons (show zok T (zP (AR a i)) from fun b hb9 => hrg.2.2.2 a i b (by simp [hT]) hb9) (ztl (ztl h2)))
  rw [List.map_cons, show zc ad (zP (AR a i)) = va_rf ((AR a i).map ad) from rfl] at kk'
  refine va_aldq hx hb hK hP q0 4 he rfl hin hd ?_
  rw [hcl]
  exact kk'
theorem zv_alen (C : zCx M Post G) {a t N : Nat} (hd : decode M.2.1 pc = .ok (.arraylength, 1)) (hT : T a = (t, N)) (ht : (Nat.blt 1 t && Nat.blt t 7) = true) (hN : N < 2147483648) (kk : zV G (pc + 1) ls (zI (N : Int) :: st) T FR AR FI AI k n) : zV G pc ls (zR a :: st) T FR AR FI AI k n := by
  obtain ⟨p, l, e, R, s, m, args, below, meth, c, Q, A, D, cs, T0, ad0⟩ := G
  obtain ⟨hx, hb, hml, hr, hlk, hnm, hown, hts, hK, hA, hR, hQ, hSt, hfl⟩ := C
  intro ad H locs lsr hM hS hl h1 h2
  obtain ⟨L, hnd, hL, hP, hD, hrg, hT0⟩ := id hM
  rw [Bool.and_eq_true] at ht
  have t1 : 1 < t := Nat.le_of_ble_eq_true ht.1
  have t2 : t < 7 := Nat.le_of_ble_eq_true ht.2
  have ho : a ∈ L := (hL a).mpr (by rw [hT]; show t ≠ 0; omega)
  obtain ⟨q0, hq0⟩ := List.getElem?_of_mem ho
  have kk' := kk ad H locs lsr hM hS hl h1 (zcons (show zr32 (N : Int) from ⟨by omega, by omega⟩) (ztl h2))
  rcases (show t = 2 ∨ t = 3 ∨ t = 4 ∨ t = 5 ∨ t = 6 by omega) with e | e | e | e | e <;> subst e
  · exact va_alen (ty := .int) hx hb hK hP q0 0 (by rw [zWd, List.getElem?_map, hq0]; show some (ad a, zE cs ad T FR AR FI AI a) = _; rw [zE_int hT]) rfl (v := Int32.ofInt (N : Int)) Int32.ofInt_eq_ofNat.symm hd kk'
  · exact va_alen (ty := .byte) hx hb hK hP q0 1 (by rw [zWd, List.getElem?_map, hq0]; show some (ad a, zE cs ad T FR AR FI AI a) = _; rw [zE_byte hT]) rfl (v := Int32.ofInt (N : Int)) Int32.ofInt_eq_ofNat.symm hd kk'
  · exact va_alen (ty := .long) hx hb hK hP q0 2 (by rw [zWd, List.getElem?_map, hq0]; show some (ad a, zE cs ad T FR AR FI AI a) = _; rw [zE_long hT]) rfl (v := Int32.ofInt (N : Int)) Int32.ofInt_eq_ofNat.symm hd kk'
  · exact va_alen (ty := .object _) hx hb hK hP q0 3 (by rw [zWd, List.getElem?_map, hq0]; show some (ad a, zE cs ad T FR AR FI AI a) = _; rw [zE_r5 hT]) rfl (v := Int32.ofInt (N : Int)) Int32.ofInt_eq_ofNat.symm hd kk'
  · exact va_alen (ty := .object _) hx hb hK hP q0 4 (by rw [zWd, List.getElem?_map, hq0]; show some (ad a, zE cs ad T FR AR FI AI a) = _; rw [zE_r6 hT]) rfl (v := Int32.ofInt (N : Int)) Int32.ofInt_eq_ofNat.symm hd kk'
theorem zv_iastore (C : zCx M Post G) {a N : Nat} {i x : Int} (hd : decode M.2.1 pc = .ok (.iastore, 1)) (hT : T a = (2, N)) (hi : 0 ≤ i ∧ i < N) (kk : zV G (pc + 1) ls st T FR AR FI (zsA AI a i x) k n) : zV G pc ls (zI x :: zI i :: zR a :: st) T FR AR FI AI k n := by
  obtain ⟨p, l, e, R, s, m, args, below, meth, c, Q, A, D, cs, T0, ad0⟩ := G
  obtain ⟨hx, hb, hml, hr, hlk, hnm, hown, hts, hK, hA, hR, hQ, hSt, hfl⟩ := C
  intro ad H locs lsr hM hS hl h1 h2
  obtain ⟨L, hnd, hL, hP, hD, hrg, hT0⟩ := id hM
  have ho : a ∈ L := (hL a).mpr (by simp [hT])
  obtain ⟨q0, hq0⟩ := List.getElem?_of_mem ho
  have he : (zWd cs ad T FR AR FI AI L)[q0]? = some (ad a, .inl (cs.1, N, .inl fun j => Int32.ofInt (AI a (j : Int)))) := by rw [zWd, List.getElem?_map, hq0, ← zE_int hT]; rfl
  have hi3 : zr32 i := zhd (ztl h2)
  have hin : vp_in (Int32.ofInt i) N := vp_in_iff.mpr (by rw [z32 hi3]; exact ⟨hi.1, hi.2⟩)
  have hcl : ((Int32.ofInt i).toNatClampNeg : Int) = i := by show (((Int32.ofInt i).toInt.toNat : Nat) : Int) = i; rw [z32 hi3]; exact Int.toNat_of_nonneg hi.1
  have hr9 : zr32 x := zhd h2
  have e9 : (zWd cs ad T FR AR FI AI L).set q0 (ad a, .inl (cs.1, N, .inl (upd (fun j => Int32.ofInt (AI a (j : Int))) (Int32.ofInt i).toNatClampNeg (Int32.ofInt x)))) = zWd cs ad T FR AR FI (zsA AI a i x) L := by
    have hg := zset (f := fun k => (ad k, zE cs ad T FR AR FI AI k)) (g := fun k => (ad k, zE cs ad T FR AR FI (zsA AI a i x) k)) hnd hq0 (fun j9 _ hj9 => by show (ad j9, _) = (ad j9, _); congr 1; simp [zE, zsA, hj9])
    rw [zWd, zWd, ← hg]
    congr 3
    show Sum.inl _ = _
    rw [zE_int hT]
    congr 3
    congr 1
    funext q9
    by_cases hq9 : q9 = (Int32.ofInt i).toNatClampNeg
    · have hq8 : (q9 : Int) = i := by rw [hq9]; exact hcl
      simp only [upd, if_pos hq9, zsA, hq8, and_self, if_true]
      try exact rfl
    · have hq8 : ¬ (q9 : Int) = i := fun z => hq9 (by omega)
      simp only [upd, if_neg hq9, zsA, hq8, and_false, if_false]
  refine va_iast hx hb hK hP hD hS q0 0 he rfl hin hd (fun H1 locs1 hP1 hD1 hS1 => ?_)
  rw [e9] at hP1 hD1
  refine kk ad H1 locs1 lsr ⟨L, hnd, hL, hP1, hD1, ⟨hrg.1, fun k9 i9 h9 => ?_, hrg.2.2⟩, hT0⟩ hS1 hl h1 (ztl (ztl (ztl h2)))
  by_cases hk9 : k9 = a ∧ i9 = i
  · obtain ⟨r1, r2⟩ := hk9; subst r1; rw [hT]; simp only [zsA, r2, and_self, if_true]; exact hr9
  · simp only [zsA, if_neg hk9]; exact hrg.2.1 k9 i9 h9
theorem zv_bastore (C : zCx M Post G) {a N : Nat} {i x : Int} (hd : decode M.2.1 pc = .ok (.bastore, 1)) (hT : T a = (3, N)) (hi : 0 ≤ i ∧ i < N) (kk : zV G (pc + 1) ls st T FR AR FI (zsA AI a i (Int.bmod x 256)) k n) : zV G pc ls (zI x :: zI i :: zR a :: st) T FR AR FI AI k n := by
  obtain ⟨p, l, e, R, s, m, args, below, meth, c, Q, A, D, cs, T0, ad0⟩ := G
  obtain ⟨hx, hb, hml, hr, hlk, hnm, hown, hts, hK, hA, hR, hQ, hSt, hfl⟩ := C
  intro ad H locs lsr hM hS hl h1 h2
  obtain ⟨L, hnd, hL, hP, hD, hrg, hT0⟩ := id hM
  have ho : a ∈ L := (hL a).mpr (by simp [hT])
  obtain ⟨q0, hq0⟩ := List.getElem?_of_mem ho
  have he : (zWd cs ad T FR AR FI AI L)[q0]? = some (ad a, .inl (cs.2.1, N, .inl fun j => Int32.ofInt (AI a (j : Int)))) := by rw [zWd, List.getElem?_map, hq0, ← zE_byte hT]; rfl
  have hi3 : zr32 i := zhd (ztl h2)
  have hin : vp_in (Int32.ofInt i) N := vp_in_iff.mpr (by rw [z32 hi3]; exact ⟨hi.1, hi.2⟩)
  have hcl : ((Int32.ofInt i).toNatClampNeg : Int) = i := by show (((Int32.ofInt i).toInt.toNat : Nat) : Int) = i; rw [z32 hi3]; exact Int.toNat_of_nonneg hi.1
  have hb1 : -128 ≤ Int.bmod x 256 := by have := @Int.le_bmod x 256 (by decide); omega
  have hb2 : Int.bmod x 256 < 128 := by have := @Int.bmod_lt x 256 (by decide); omega
  have hr9 : zr32 (Int.bmod x 256) := ⟨by omega, by omega⟩
  have e9 : (zWd cs ad T FR AR FI AI L).set q0 (ad a, .inl (cs.2.1, N, .inl (upd (fun j => Int32.ofInt (AI a (j : Int))) (Int32.ofInt i).toNatClampNeg (vp_nar .byte (Int32.ofInt x))))) = zWd cs ad T FR AR FI (zsA AI a i (Int.bmod x 256)) L := by
    have hg := zset (f := fun k => (ad k, zE cs ad T FR AR FI AI k)) (g := fun k => (ad k, zE cs ad T FR AR FI (zsA AI a i (Int.bmod x 256)) k)) hnd hq0 (fun j9 _ hj9 => by show (ad j9, _) = (ad j9, _); congr 1; simp [zE, zsA, hj9])
    rw [zWd, zWd, ← hg]
    congr 3
    show Sum.inl _ = _
    rw [zE_byte hT]
    congr 3
    congr 1
    funext q9
    by_cases hq9 : q9 = (Int32.ofInt i).toNatClampNeg
    · have hq8 : (q9 : Int) = i := by rw [hq9]; exact hcl
      simp only [upd, if_pos hq9, zsA, hq8, and_self, if_true]
      try exact (by show vp_nar .byte (Int32.ofInt x) = _; rw [vp_nar_byte, ← Int32.toInt_inj, z32 hr9]; have hx3 : zr32 x := zhd h2; simp [z32 hx3])
    · have hq8 : ¬ (q9 : Int) = i := fun z => hq9 (by omega)
      simp only [upd, if_neg hq9, zsA, hq8, and_false, if_false]
  refine va_bast hx hb hK hP hD hS q0 1 he rfl hin hd (fun H1 locs1 hP1 hD1 hS1 => ?_)
  rw [e9] at hP1 hD1
  refine kk ad H1 locs1 lsr ⟨L, hnd, hL, hP1, hD1, ⟨hrg.1, fun k9 i9 h9 => ?_, hrg.2.2⟩, hT0⟩ hS1 hl h1 (ztl (ztl (ztl h2)))
  by_cases hk9 : k9 = a ∧ i9 = i
  · obtain ⟨r1, r2⟩ := hk9; subst r1; rw [hT]; simp only [zsA, r2, and_self, if_true]; exact hr9
  · simp only [zsA, if_neg hk9]; exact hrg.2.1 k9 i9 h9
theorem zv_lastore (C : zCx M Post G) {a N : Nat} {i x : Int} (hd : decode M.2.1 pc = .ok (.lastore, 1)) (hT : T a = (4, N)) (hi : 0 ≤ i ∧ i < N) (kk : zV G (pc + 1) ls st T FR AR FI (zsA AI a i x) k n) : zV G pc ls (zL x :: zI i :: zR a :: st) T FR AR FI AI k n := by
  obtain ⟨p, l, e, R, s, m, args, below, meth, c, Q, A, D, cs, T0, ad0⟩ := G
  obtain ⟨hx, hb, hml, hr, hlk, hnm, hown, hts, hK, hA, hR, hQ, hSt, hfl⟩ := C
  intro ad H locs lsr hM hS hl h1 h2
  obtain ⟨L, hnd, hL, hP, hD, hrg, hT0⟩ := id hM
  have ho : a ∈ L := (hL a).mpr (by simp [hT])
  obtain ⟨q0, hq0⟩ := List.getElem?_of_mem ho
  have he : (zWd cs ad T FR AR FI AI L)[q0]? = some (ad a, .inl (cs.2.2.1, N, .inr (.inl fun j => Int64.ofInt (AI a (j : Int))))) := by rw [zWd, List.getElem?_map, hq0, ← zE_long hT]; rfl
  have hi3 : zr32 i := zhd (ztl h2)
  have hin : vp_in (Int32.ofInt i) N := vp_in_iff.mpr (by rw [z32 hi3]; exact ⟨hi.1, hi.2⟩)
  have hcl : ((Int32.ofInt i).toNatClampNeg : Int) = i := by show (((Int32.ofInt i).toInt.toNat : Nat) : Int) = i; rw [z32 hi3]; exact Int.toNat_of_nonneg hi.1
  have hr9 : zr64 x := zhd h2
  have e9 : (zWd cs ad T FR AR FI AI L).set q0 (ad a, .inl (cs.2.2.1, N, .inr (.inl (vp_updL (fun j => Int64.ofInt (AI a (j : Int))) (Int32.ofInt i).toNatClampNeg (Int64.ofInt x))))) = zWd cs ad T FR AR FI (zsA AI a i x) L := by
    have hg := zset (f := fun k => (ad k, zE cs ad T FR AR FI AI k)) (g := fun k => (ad k, zE cs ad T FR AR FI (zsA AI a i x) k)) hnd hq0 (fun j9 _ hj9 => by show (ad j9, _) = (ad j9, _); congr 1; simp [zE, zsA, hj9])
    rw [zWd, zWd, ← hg]
    congr 3
    show Sum.inl _ = _
    rw [zE_long hT]
    congr 3
    congr 1
    congr 1
    funext q9
    by_cases hq9 : q9 = (Int32.ofInt i).toNatClampNeg
    · have hq8 : (q9 : Int) = i := by rw [hq9]; exact hcl
      simp only [vp_updL, if_pos hq9, zsA, hq8, and_self, if_true]
      try exact rfl
    · have hq8 : ¬ (q9 : Int) = i := fun z => hq9 (by omega)
      simp only [vp_updL, if_neg hq9, zsA, hq8, and_false, if_false]
  refine va_last hx hb hK hP hD hS q0 2 he rfl hin hd (fun H1 locs1 hP1 hD1 hS1 => ?_)
  rw [e9] at hP1 hD1
  refine kk ad H1 locs1 lsr ⟨L, hnd, hL, hP1, hD1, ⟨hrg.1, fun k9 i9 h9 => ?_, hrg.2.2⟩, hT0⟩ hS1 hl h1 (ztl (ztl (ztl h2)))
  by_cases hk9 : k9 = a ∧ i9 = i
  · obtain ⟨r1, r2⟩ := hk9; subst r1; rw [hT]; simp only [zsA, r2, and_self, if_true]; exact hr9
  · simp only [zsA, if_neg hk9]; exact hrg.2.1 k9 i9 h9
theorem zv_aastore5 (C : zCx M Post G) {a b N : Nat} {i : Int} (hd : decode M.2.1 pc = .ok (.aastore, 1)) (hT : T a = (5, N)) (hTb : T b = (1, 1)) (hi : 0 ≤ i ∧ i < N) (kk : zV G (pc + 1) ls st T FR (zsQ AR a i (some b)) FI AI k n) : zV G pc ls (zR b :: zI i :: zR a :: st) T FR AR FI AI k n := by
  obtain ⟨p, l, e, R, s, m, args, below, meth, c, Q, A, D, cs, T0, ad0⟩ := G
  obtain ⟨hx, hb, hml, hr, hlk, hnm, hown, hts, hK, hA, hR, hQ, hSt, hfl⟩ := C
  intro ad H locs lsr hM hS hl h1 h2
  obtain ⟨L, hnd, hL, hP, hD, hrg, hT0⟩ := id hM
  have ho : a ∈ L := (hL a).mpr (by simp [hT])
  obtain ⟨q0, hq0⟩ := List.getElem?_of_mem ho
  have he : (zWd cs ad T FR AR FI AI L)[q0]? = some (ad a, .inl (cs.2.2.2.1, N, .inr (.inr (.inr (.inr fun j => (AR a (j : Int)).map ad))))) := by rw [zWd, List.getElem?_map, hq0, ← zE_r5 hT]; rfl
  have hi3 : zr32 i := zhd (ztl h2)
  have hin : vp_in (Int32.ofInt i) N := vp_in_iff.mpr (by rw [z32 hi3]; exact ⟨hi.1, hi.2⟩)
  have hcl : ((Int32.ofInt i).toNatClampNeg : Int) = i := by show (((Int32.ofInt i).toInt.toNat : Nat) : Int) = i; rw [z32 hi3]; exact Int.toNat_of_nonneg hi.1
  have hob : b ∈ L := (hL b).mpr (by rw [hTb]; exact Nat.one_ne_zero)
  obtain ⟨q1, hq1⟩ := List.getElem?_of_mem hob
  have heb : (zWd cs ad T FR AR FI AI L)[q1]? = some (ad b, .inr (1, (List.range (znf 1)).map fun j => zfv ad FR FI b j (zty 1 j))) := by rw [zWd, List.getElem?_map, hq1, ← zE_obj hTb]; rfl
  have e9 : (zWd cs ad T FR AR FI AI L).set q0 (ad a, .inl (cs.2.2.2.1, N, .inr (.inr (.inr (.inr (va_up (fun j => (AR a (j : Int)).map ad) (Int32.ofInt i).toNatClampNeg (some (ad b)))))))) = zWd cs ad T FR (zsQ AR a i (some b)) FI AI L := by
    have hg := zset (f := fun k => (ad k, zE cs ad T FR AR FI AI k)) (g := fun k => (ad k, zE cs ad T FR (zsQ AR a i (some b)) FI AI k)) hnd hq0 (fun j9 _ hj9 => by show (ad j9, _) = (ad j9, _); congr 1; simp [zE, zsQ, hj9])
    rw [zWd, zWd, ← hg]
    congr 3
    show Sum.inl _ = _
    rw [zE_r5 hT]
    congr 6
    congr 1
    funext q9
    by_cases hq9 : q9 = (Int32.ofInt i).toNatClampNeg
    · have hq8 : (q9 : Int) = i := by rw [hq9]; exact hcl
      simp only [va_up, if_pos hq9, zsQ, hq8, and_self, if_true]
      rfl
    · have hq8 : ¬ (q9 : Int) = i := fun z => hq9 (by omega)
      simp only [va_up, if_neg hq9, zsQ, hq8, and_false, if_false]
  refine va_astq hx hb hK hP hD hS q0 3 q1 1 he rfl heb rfl hin hd (fun H1 locs1 hP1 hD1 hS1 => ?_)
  rw [e9] at hP1 hD1
  refine kk ad H1 locs1 lsr ⟨L, hnd, hL, hP1, hD1, ⟨hrg.1, hrg.2.1, hrg.2.2.1, fun k9 i9 b9 h9 hb9 => ?_⟩, hT0⟩ hS1 hl h1 (ztl (ztl (ztl h2)))
  by_cases hk9 : k9 = a ∧ i9 = i
  · simp only [zsQ, if_pos hk9] at hb9; cases hb9; rw [hTb]; exact Nat.one_ne_zero
  · simp only [zsQ, if_neg hk9] at hb9; exact hrg.2.2.2 k9 i9 b9 h9 hb9
theorem zv_aastore6 (C : zCx M Post G) {a b N : Nat} {i : Int} (hd : decode M.2.1 pc = .ok (.aastore, 1)) (hT : T a = (6, N)) (hTb : T b = (1, 2)) (hi : 0 ≤ i ∧ i < N) (kk : zV G (pc + 1) ls st T FR (zsQ AR a i (some b)) FI AI k n) : zV G pc ls (zR b :: zI i :: zR a :: st) T FR AR FI AI k n := by
  obtain ⟨p, l, e, R, s, m, args, below, meth, c, Q, A, D, cs, T0, ad0⟩ := G
  obtain ⟨hx, hb, hml, hr, hlk, hnm, hown, hts, hK, hA, hR, hQ, hSt, hfl⟩ := C
  intro ad H locs lsr hM hS hl h1 h2
  obtain ⟨L, hnd, hL, hP, hD, hrg, hT0⟩ := id hM
  have ho : a ∈ L := (hL a).mpr (by simp [hT])
  obtain ⟨q0, hq0⟩ := List.getElem?_of_mem ho
  have he : (zWd cs ad T FR AR FI AI L)[q0]? = some (ad a, .inl (cs.2.2.2.2, N, .inr (.inr (.inr (.inr fun j => (AR a (j : Int)).map ad))))) := by rw [zWd, List.getElem?_map, hq0, ← zE_r6 hT]; rfl
  have hi3 : zr32 i := zhd (ztl h2)
  have hin : vp_in (Int32.ofInt i) N := vp_in_iff.mpr (by rw [z32 hi3]; exact ⟨hi.1, hi.2⟩)
  have hcl : ((Int32.ofInt i).toNatClampNeg : Int) = i := by show (((Int32.ofInt i).toInt.toNat : Nat) : Int) = i; rw [z32 hi3]; exact Int.toNat_of_nonneg hi.1
  have hob : b ∈ L := (hL b).mpr (by rw [hTb]; exact Nat.one_ne_zero)
  obtain ⟨q1, hq1⟩ := List.getElem?_of_mem hob
  have heb : (zWd cs ad T FR AR FI AI L)[q1]? = some (ad b, .inr (2, (List.range (znf 2)).map fun j => zfv ad FR FI b j (zty 2 j))) := by rw [zWd, List.getElem?_map, hq1, ← zE_obj hTb]; rfl
  have e9 : (zWd cs ad T FR AR FI AI L).set q0 (ad a, .inl (cs.2.2.2.2, N, .inr (.inr (.inr (.inr (va_up (fun j => (AR a (j : Int)).map ad) (Int32.ofInt i).toNatClampNeg (some (ad b)))))))) = zWd cs ad T FR (zsQ AR a i (some b)) FI AI L := by
    have hg := zset (f := fun k => (ad k, zE cs ad T FR AR FI AI k)) (g := fun k => (ad k, zE cs ad T FR (zsQ AR a i (some b)) FI AI k)) hnd hq0 (fun j9 _ hj9 => by show (ad j9, _) = (ad j9, _); congr 1; simp [zE, zsQ, hj9])
    rw [zWd, zWd, ← hg]
    congr 3
    show Sum.inl _ = _
    rw [zE_r6 hT]
    congr 6
    congr 1
    funext q9
    by_cases hq9 : q9 = (Int32.ofInt i).toNatClampNeg
    · have hq8 : (q9 : Int) = i := by rw [hq9]; exact hcl
      simp only [va_up, if_pos hq9, zsQ, hq8, and_self, if_true]
      rfl
    · have hq8 : ¬ (q9 : Int) = i := fun z => hq9 (by omega)
      simp only [va_up, if_neg hq9, zsQ, hq8, and_false, if_false]
  refine va_astq hx hb hK hP hD hS q0 4 q1 2 he rfl heb rfl hin hd (fun H1 locs1 hP1 hD1 hS1 => ?_)
  rw [e9] at hP1 hD1
  refine kk ad H1 locs1 lsr ⟨L, hnd, hL, hP1, hD1, ⟨hrg.1, hrg.2.1, hrg.2.2.1, fun k9 i9 b9 h9 hb9 => ?_⟩, hT0⟩ hS1 hl h1 (ztl (ztl (ztl h2)))
  by_cases hk9 : k9 = a ∧ i9 = i
  · simp only [zsQ, if_pos hk9] at hb9; cases hb9; rw [hTb]; exact Nat.one_ne_zero
  · simp only [zsQ, if_neg hk9] at hb9; exact hrg.2.2.2 k9 i9 b9 h9 hb9
end ZHeap
