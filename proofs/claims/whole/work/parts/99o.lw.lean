/-! THE LAW'S OWN FRAME: its script, its end -/
def M_law (nm : String) : zMd := (⟨RL, nm, "([I)Z"⟩, code, 7, ret, room_1)
def zPF : zPost := fun _ _ _ _ _ _ => False
def zScr (b L : Nat) (xs : Nat → Int32) (G : zG) : Prop := match G with
  | (_, _, _, _, s, _, _, _, _, _, _, A, _, _, _, ad0) => va_X b L xs s s.heap ∧ b < s.heap.size ∧ ¬ A b ∧ ad0 (zb + 99) = b ∧ L ≤ 3072
def zLw (b : Nat) (G : zG) : Prop := match G with
  | (_, _, _, _, s, _, args, below, _, _, Q, A, _, _, _, _) => args = #[Value.ref b] ∧ Q = lw_Z below #[Value.ref b] s ∧ ∀ q, A q → s.heap.size ≤ q
def sv (xs : Nat → Int32) (i : Int) : Int := (xs i.toNat).toInt
theorem sv_b (xs : Nat → Int32) (i : Int) : zr32 (sv xs i) := ⟨by have := Int32.le_toInt (xs i.toNat); unfold sv; omega, by have := Int32.toInt_lt (xs i.toNat); unfold sv; omega⟩
section ZLaw
variable {M : zMd} {Post : zPost} {G : zG} {pc : Nat} {ls : List (Option zVal)} {st : List zVal} {T : zTt} {FR : zFR} {AR : zAR} {FI : zFI} {AI : zAI} {k n : Nat}
theorem zv_sld (C : zCx M Post G) {b L : Nat} {xs : Nat → Int32} (S : zScr b L xs G) {i : Int} (hd : decode M.2.1 pc = .ok (.iaload, 1)) (hi : 0 ≤ i ∧ i < L) (kk : zV G (pc + 1) ls (zI (sv xs i) :: st) T FR AR FI AI k n) : zV G pc ls (zI i :: zA 99 :: st) T FR AR FI AI k n := by
  obtain ⟨p, l, e, R, s, m, args, below, meth, c, Q, A, D, cs, T0, ad0⟩ := G
  obtain ⟨hx, hb, hml, hr, hlk, hnm, hown, hts, hK, hA, hR, hQ, hSt, hfl⟩ := C
  obtain ⟨s1, s2, s3, s4, s5⟩ := S
  intro ad H locs lsr hM hS hl h1 h2
  obtain ⟨L9, hnd, hL, hP, hD, hrg, hT0⟩ := id hM
  have hi3 : zr32 i := zhd h2
  have hin : vp_in (Int32.ofInt i) L := vp_in_iff.mpr (by rw [z32 hi3]; exact ⟨hi.1, hi.2⟩)
  have hcl : (Int32.ofInt i).toNatClampNeg = i.toNat := by show ((Int32.ofInt i).toInt.toNat) = i.toNat; rw [z32 hi3]
  have kk' := kk ad H locs lsr hM hS hl h1 (zcons (sv_b xs i) (ztl (ztl h2)))
  rw [List.map_cons, List.map_cons, show zc ad (zA 99) = .ref b from congrArg Value.ref ((hT0.2 99).trans s4)]
  refine va_sld hx hb s1 s2 s3 hS hin hd ?_
  rw [hcl]
  rw [List.map_cons, show zc ad (zI (sv xs i)) = .int (xs i.toNat) from congrArg Value.int (Int32.ofInt_toInt _)] at kk'
  exact kk'
theorem zv_slen (C : zCx M Post G) {b L : Nat} {xs : Nat → Int32} (S : zScr b L xs G) (hd : decode M.2.1 pc = .ok (.arraylength, 1)) (kk : zV G (pc + 1) ls (zI (L : Int) :: st) T FR AR FI AI k n) : zV G pc ls (zA 99 :: st) T FR AR FI AI k n := by
  obtain ⟨p, l, e, R, s, m, args, below, meth, c, Q, A, D, cs, T0, ad0⟩ := G
  obtain ⟨hx, hb, hml, hr, hlk, hnm, hown, hts, hK, hA, hR, hQ, hSt, hfl⟩ := C
  obtain ⟨s1, s2, s3, s4, s5⟩ := S
  intro ad H locs lsr hM hS hl h1 h2
  obtain ⟨L9, hnd, hL, hP, hD, hrg, hT0⟩ := id hM
  have kk' := kk ad H locs lsr hM hS hl h1 (zcons (show zr32 (L : Int) from ⟨by omega, by omega⟩) (ztl h2))
  rw [List.map_cons, show zc ad (zA 99) = .ref b from congrArg Value.ref ((hT0.2 99).trans s4)]
  refine va_slen hx hb s1 s2 s3 hS hd ?_
  rw [List.map_cons, show zc ad (zI (L : Int)) = .int (Int32.ofNat L) from congrArg Value.int Int32.ofInt_eq_ofNat] at kk'
  exact kk'
theorem zv_lawend {nm : String} (C : zCx (M_law nm) Post G) {b : Nat} (S : zLw b G) (hd : decode code pc = .ok (.ireturn, 1)) (hk : k ≤ 601024) (hn : n ≤ 7293034) : zV G pc ls [zI 1] T FR AR FI AI k n := by
  obtain ⟨p, l, e, R, s, m, args, below, meth, c, Q, A, D, cs, T0, ad0⟩ := G
  obtain ⟨hx, hb, hml, hr, hlk, hnm, hown, hts, hK, hA, hR, hQ, hSt, hfl⟩ := C
  obtain ⟨s1, s2, s3⟩ := S
  subst hR
  subst s1
  subst s2
  intro ad H locs lsr hM hS hl h1 h2
  exact W.widen hk hn (va_forget (fun q hq => s3 _ (hS.2.2 q hq)) (lw_ret hx hb hr hlk hd))
end ZLaw
