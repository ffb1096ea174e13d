section ZBits
variable {M : zMd} {Post : zPost} {G : zG} {pc : Nat} {ls : List (Option zVal)} {st : List zVal} {T : zTt} {FR : zFR} {AR : zAR} {FI : zFI} {AI : zAI} {k n : Nat}
theorem zbv {x : Int} (h : zr32 x) : ((Int32.ofInt x).toBitVec.toNat : Int) = x % 4294967296 := by
  have h1 : (Int32.ofInt x).toBitVec = BitVec.ofInt 32 x := rfl
  rw [h1, BitVec.toNat_ofInt]
  have h2 : (0 : Int) ≤ x % ((2 ^ 32 : Nat) : Int) := Int.emod_nonneg _ (by decide)
  rw [Int.toNat_of_nonneg h2]
  rfl
theorem zand {x m : Int} (k : Nat) (hx : zr32 x) (hm : (Int32.ofInt m).toBitVec.toNat = 2 ^ k - 1) (hk : k ≤ 30) : (Int32.ofInt x &&& Int32.ofInt m) = Int32.ofInt (x % ((2 ^ k : Nat) : Int)) := by
  rw [pk_and _ k hm]
  have e1 : nI ((Int32.ofInt x).toBitVec.toNat % 2 ^ k) = Int32.ofInt (((Int32.ofInt x).toBitVec.toNat % 2 ^ k : Nat) : Int) := Int32.ofInt_eq_ofNat.symm
  rw [e1]
  congr 1
  rw [Int.natCast_emod, zbv hx]
  have hd : ((2 ^ k : Nat) : Int) ∣ 4294967296 := by
    have : (4294967296 : Int) = ((2 ^ 32 : Nat) : Int) := rfl
    rw [this]
    exact Int.natCast_dvd_natCast.mpr (Nat.pow_dvd_pow 2 (by omega))
  exact Int.emod_emod_of_dvd x hd
theorem zv_iand (C : zCx M Post G) {x mk : Int} (kb : Nat) (hd : decode M.2.1 pc = .ok (.iand, 1)) (hm : (Nat.beq (Int32.ofInt mk).toBitVec.toNat (2 ^ kb - 1) && Nat.ble kb 30) = true) (kk : zV G (pc + 1) ls (zI (x % ((2 ^ kb : Nat) : Int)) :: st) T FR AR FI AI k n) : zV G pc ls (zI mk :: zI x :: st) T FR AR FI AI k n := by
  obtain ⟨p, l, e, R, s, m, args, below, meth, c, Q, A, D, cs, T0, ad0⟩ := G
  obtain ⟨hx, hb, hml, hr, hlk, hnm, hown, hts, hK, hA, hR, hQ, hSt, hfl⟩ := C
  intro ad H locs lsr hM hS hl h1 h2
  rw [Bool.and_eq_true] at hm
  have hk : kb ≤ 30 := Nat.le_of_ble_eq_true hm.2
  have e1 := zand (m := mk) kb (zhd (ztl h2)) (Nat.eq_of_beq_eq_true hm.1) hk
  have hp : 0 < ((2 ^ kb : Nat) : Int) := Int.natCast_pos.mpr (Nat.pos_of_ne_zero (by simp))
  have hb1 := Int.emod_nonneg x (Int.ne_of_gt hp)
  have hb2 := Int.emod_lt_of_pos x hp
  have hle : 2 ^ kb ≤ 2 ^ 30 := Nat.pow_le_pow_right (by decide) hk
  have kk' := kk ad H locs lsr hM hS hl h1 (zcons (show zr32 _ from ⟨by omega, by omega⟩) (ztl (ztl h2)))
  rw [List.map_cons, show zc ad (zI (x % ((2 ^ kb : Nat) : Int))) = .int (Int32.ofInt x &&& Int32.ofInt mk) from by rw [e1]; rfl] at kk'
  exact lv_iand hx hb hd kk'
theorem zv_ishr (C : zCx M Post G) {x y : Int} (kb : Nat) (hd : decode M.2.1 pc = .ok (.ishr, 1)) (hy : y = (kb : Int)) (hs : ((Int32.ofInt (kb : Int) &&& 31).toBitVec.smod 32).toNat = kb) (kk : zV G (pc + 1) ls (zI (x / ((2 ^ kb : Nat) : Int)) :: st) T FR AR FI AI k n) : zV G pc ls (zI y :: zI x :: st) T FR AR FI AI k n := by
  obtain ⟨p, l, e, R, s, m, args, below, meth, c, Q, A, D, cs, T0, ad0⟩ := G
  obtain ⟨hx, hb, hml, hr, hlk, hnm, hown, hts, hK, hA, hR, hQ, hSt, hfl⟩ := C
  intro ad H locs lsr hM hS hl h1 h2
  subst hy
  have hx3 : zr32 x := zhd (ztl h2)
  have e1 := pk_shr (Int32.ofInt x) (Int32.ofInt (kb : Int) &&& 31) kb hs
  rw [z32 hx3, Int.shiftRight_eq_div_pow] at e1
  have hp : 0 < ((2 ^ kb : Nat) : Int) := Int.natCast_pos.mpr (Nat.pos_of_ne_zero (by simp))
  have hr3 : zr32 (x / ((2 ^ kb : Nat) : Int)) := by
    rw [← e1]
    exact ⟨by have := Int32.le_toInt (Int32.ofInt x >>> (Int32.ofInt (kb : Int) &&& 31)); omega, by have := Int32.toInt_lt (Int32.ofInt x >>> (Int32.ofInt (kb : Int) &&& 31)); omega⟩
  have kk' := kk ad H locs lsr hM hS hl h1 (zcons hr3 (ztl (ztl h2)))
  rw [List.map_cons, show zc ad (zI (x / ((2 ^ kb : Nat) : Int))) = .int (Int32.ofInt x >>> (Int32.ofInt (kb : Int) &&& 31)) from by show Value.int _ = _; congr 1; rw [← Int32.toInt_inj, e1, z32 hr3]] at kk'
  exact lv_ishr hx hb hd kk'
theorem zv_iushr (C : zCx M Post G) {x y : Int} (kb : Nat) (hd : decode M.2.1 pc = .ok (.iushr, 1)) (hy : y = (kb : Int)) (hs : (((Int32.ofInt (kb : Int)).toUInt32 &&& Int32.toUInt32 31).toBitVec % 32).toNat = kb) (kk : zV G (pc + 1) ls (zI (Int.bmod (x % 4294967296 / ((2 ^ kb : Nat) : Int)) 4294967296) :: st) T FR AR FI AI k n) : zV G pc ls (zI y :: zI x :: st) T FR AR FI AI k n := by
  obtain ⟨p, l, e, R, s, m, args, below, meth, c, Q, A, D, cs, T0, ad0⟩ := G
  obtain ⟨hx, hb, hml, hr, hlk, hnm, hown, hts, hK, hA, hR, hQ, hSt, hfl⟩ := C
  intro ad H locs lsr hM hS hl h1 h2
  subst hy
  have hx3 : zr32 x := zhd (ztl h2)
  have e1 := pk_ushr (Int32.ofInt x) (Int32.ofInt (kb : Int)) kb hs
  generalize hv : ((Int32.ofInt x).toUInt32 >>> ((Int32.ofInt (kb : Int)).toUInt32 &&& Int32.toUInt32 31)).toInt32 = v at e1
  have e2 : v.toInt = Int.bmod (x % 4294967296 / ((2 ^ kb : Nat) : Int)) 4294967296 := by
    have e3 : v.toInt = Int.bmod (v.toBitVec.toNat : Int) 4294967296 := BitVec.toInt_eq_toNat_bmod v.toBitVec
    rw [e3, e1, Int.natCast_ediv, zbv hx3]
  have hr4 : zr32 (Int.bmod (x % 4294967296 / ((2 ^ kb : Nat) : Int)) 4294967296) := by
    rw [← e2]
    exact ⟨by have := Int32.le_toInt v; omega, by have := Int32.toInt_lt v; omega⟩
  have kk' := kk ad H locs lsr hM hS hl h1 (zcons hr4 (ztl (ztl h2)))
  have e5 : Int32.ofInt (Int.bmod (x % 4294967296 / ((2 ^ kb : Nat) : Int)) 4294967296) = v := by rw [← Int32.toInt_inj, e2, z32 hr4]
  exact lv_iushr hx hb hd (hv.trans e5.symm) kk'
theorem zv_i2c (C : zCx M Post G) {x : Int} (hd : decode M.2.1 pc = .ok (.i2c, 1)) (g1 : 0 ≤ x) (g2 : x < 65536) (kk : zV G (pc + 1) ls (zI x :: st) T FR AR FI AI k n) : zV G pc ls (zI x :: st) T FR AR FI AI k n := by
  obtain ⟨p, l, e, R, s, m, args, below, meth, c, Q, A, D, cs, T0, ad0⟩ := G
  obtain ⟨hx, hb, hml, hr, hlk, hnm, hown, hts, hK, hA, hR, hQ, hSt, hfl⟩ := C
  intro ad H locs lsr hM hS hl h1 h2
  have hx3 : zr32 x := zhd h2
  exact lv_i2c hx hb hd (lg_i2c_word (by rw [z32 hx3]; exact g1) (by rw [z32 hx3]; exact g2)) (kk ad H locs lsr hM hS hl h1 h2)
theorem zv_lcmp (C : zCx M Post G) {x y : Int} (hd : decode M.2.1 pc = .ok (.lcmp, 1)) (kk : zV G (pc + 1) ls (zI (if y < x then 1 else if x = y then 0 else -1) :: st) T FR AR FI AI k n) : zV G pc ls (zL y :: zL x :: st) T FR AR FI AI k n := by
  obtain ⟨p, l, e, R, s, m, args, below, meth, c, Q, A, D, cs, T0, ad0⟩ := G
  obtain ⟨hx, hb, hml, hr, hlk, hnm, hown, hts, hK, hA, hR, hQ, hSt, hfl⟩ := C
  intro ad H locs lsr hM hS hl h1 h2
  have hx3 : zr64 x := zhd (ztl h2)
  have hy3 : zr64 y := zhd h2
  have e1 : Int64.ofInt y < Int64.ofInt x ↔ y < x := by rw [Int64.lt_iff_toInt_lt, z64 hx3, z64 hy3]
  have e2 : Int64.ofInt x = Int64.ofInt y ↔ x = y := by rw [← Int64.toInt_inj, z64 hx3, z64 hy3]
  have hr7 : zr32 (if y < x then 1 else if x = y then 0 else -1) := by
    by_cases q1 : y < x
    · rw [if_pos q1]; exact ⟨by decide, by decide⟩
    · rw [if_neg q1]
      by_cases q2 : x = y
      · rw [if_pos q2]; exact ⟨by decide, by decide⟩
      · rw [if_neg q2]; exact ⟨by decide, by decide⟩
  have kk' := kk ad H locs lsr hM hS hl h1 (zcons hr7 (ztl (ztl h2)))
  refine W.lcmp hx hb hd ?_
  have e3 : zc ad (zI (if y < x then 1 else if x = y then 0 else -1)) = .int (lg_cmp (Int64.ofInt x) (Int64.ofInt y)) := by
    show Value.int _ = _
    congr 1
    unfold lg_cmp
    by_cases q1 : y < x
    · rw [if_pos q1, if_pos (e1.mpr q1)]; rfl
    · rw [if_neg q1, if_neg (fun z => q1 (e1.mp z))]
      by_cases q2 : x = y
      · rw [if_pos q2, if_pos (e2.mpr q2)]; rfl
      · rw [if_neg q2, if_neg (fun z => q2 (e2.mp z))]; rfl
  rw [List.map_cons, e3] at kk'
  exact kk'
theorem zv_ldcw (C : zCx M Post G) {x : Int} {v : Int32} {i : Nat} (hd : decode M.2.1 pc = .ok (.ldc_w i, 3)) (hw : Cond.constant M.1.cls i v ∈ zWs) (hv : (decide (zr32 x) && decide (v = Int32.ofInt x)) = true) (kk : zV G (pc + 3) ls (zI x :: st) T FR AR FI AI k n) : zV G pc ls st T FR AR FI AI k n := by
  obtain ⟨p, l, e, R, s, m, args, below, meth, c, Q, A, D, cs, T0, ad0⟩ := G
  obtain ⟨hx, hb, hml, hr, hlk, hnm, hown, hts, hK, hA, hR, hQ, hSt, hfl⟩ := C
  intro ad H locs lsr hM hS hl h1 h2
  rw [Bool.and_eq_true] at hv
  have e2 : v = Int32.ofInt x := of_decide_eq_true hv.2
  subst e2
  exact lv_ldcw hx hb hown (hts _ hw) hd (kk ad H locs lsr hM hS hl h1 (zcons (show zr32 x from of_decide_eq_true hv.1) h2))
end ZBits
