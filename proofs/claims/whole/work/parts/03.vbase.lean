/-! AN ABSTRACT MACHINE OVER HANDLES AND WHOLE NUMBERS. A value: an int, a long (as whole numbers), a reference by its handle (or null), a reference to a cell that nobody writes (by its number). A heap: T (what a handle is: (0,_) nothing, (1,ci) an object, (2,n) int[n], (3,n) byte[n], (4,n) long[n], (5,n) Book[n], (6,n) Closing[n]), FR, AR (references in fields, in arrays), FI, AI (numbers in fields, in arrays). -/
abbrev zVal : Type := Int ⊕ (Int ⊕ (Option Nat ⊕ Nat))
abbrev zI (x : Int) : zVal := Sum.inl x
abbrev zL (x : Int) : zVal := Sum.inr (Sum.inl x)
abbrev zP (r : Option Nat) : zVal := Sum.inr (Sum.inr (Sum.inl r))
abbrev zR (k : Nat) : zVal := Sum.inr (Sum.inr (Sum.inl (some k)))
abbrev zN : zVal := Sum.inr (Sum.inr (Sum.inl none))
abbrev zA (a : Nat) : zVal := Sum.inr (Sum.inr (Sum.inr a))
/-- the numbers of cells that nobody writes lie from here on, among the handles -/
def zb : Nat := 1000000
def zc (ad : Nat → Nat) : zVal → Value
  | .inl x => .int (Int32.ofInt x)
  | .inr (.inl x) => .long (Int64.ofInt x)
  | .inr (.inr (.inl r)) => va_rf (r.map ad)
  | .inr (.inr (.inr a)) => .ref (ad (zb + a))
abbrev zr32 (x : Int) : Prop := -2147483648 ≤ x ∧ x < 2147483648
abbrev zr64 (x : Int) : Prop := -9223372036854775808 ≤ x ∧ x < 9223372036854775808
abbrev zTt : Type := Nat → Nat × Nat
abbrev zFR : Type := Nat → Nat → Option Nat
abbrev zAR : Type := Nat → Int → Option Nat
abbrev zFI : Type := Nat → Nat → Int
abbrev zAI : Type := Nat → Int → Int
def zok (T : zTt) : zVal → Prop
  | .inl x => zr32 x
  | .inr (.inl x) => zr64 x
  | .inr (.inr (.inl r)) => ∀ k, r = some k → (T k).1 ≠ 0
  | .inr (.inr (.inr _)) => True
def zcat : zVal → Nat
  | .inr (.inl _) => 2
  | _ => 1
theorem zcat_ok (ad : Nat → Nat) (v : zVal) : (zc ad v).category = zcat v := by
  rcases v with x | x | r | a
  · rfl
  · rfl
  · cases r <;> rfl
  · rfl
def zty (ci : Nat) : Nat → FieldType := match ci with
  | 0 => tyX1
  | 1 => tyX2
  | 2 => tyX3
  | 3 => tyX4
  | 4 => tyX6
  | 5 => tyX7
  | 6 => tyX8
  | _ => tyX9
def znf (ci : Nat) : Nat := match ci with
  | 0 => 3
  | 1 => 9
  | 2 => 3
  | 3 => 10
  | 4 => 9
  | 5 => 2
  | 6 => 6
  | _ => 25
abbrev zCs : Type := ClassId × ClassId × ClassId × ClassId × ClassId
def zfv (ad : Nat → Nat) (FR : zFR) (FI : zFI) (k j : Nat) (ty : FieldType) : Value := match ty with
  | .int => .int (Int32.ofInt (FI k j))
  | .long => .long (Int64.ofInt (FI k j))
  | _ => va_rf ((FR k j).map ad)
def zE (cs : zCs) (ad : Nat → Nat) (T : zTt) (FR : zFR) (AR : zAR) (FI : zFI) (AI : zAI) (k : Nat) : va_E :=
  if (T k).1 = 1 then .inr ((T k).2, (List.range (znf (T k).2)).map fun j => zfv ad FR FI k j (zty (T k).2 j))
  else if (T k).1 = 2 then .inl (cs.1, (T k).2, .inl fun j => Int32.ofInt (AI k (j : Int)))
  else if (T k).1 = 3 then .inl (cs.2.1, (T k).2, .inl fun j => Int32.ofInt (AI k (j : Int)))
  else if (T k).1 = 4 then .inl (cs.2.2.1, (T k).2, .inr (.inl fun j => Int64.ofInt (AI k (j : Int))))
  else if (T k).1 = 5 then .inl (cs.2.2.2.1, (T k).2, .inr (.inr (.inr (.inr fun j => (AR k (j : Int)).map ad))))
  else .inl (cs.2.2.2.2, (T k).2, .inr (.inr (.inr (.inr fun j => (AR k (j : Int)).map ad))))
def zWd (cs : zCs) (ad : Nat → Nat) (T : zTt) (FR : zFR) (AR : zAR) (FI : zFI) (AI : zAI) (L : List Nat) : va_W := L.map fun k => (ad k, zE cs ad T FR AR FI AI k)
/-- numbers in range, references to what is there -/
def zrg (T : zTt) (FR : zFR) (AR : zAR) (FI : zFI) (AI : zAI) : Prop :=
  (∀ k j, (T k).1 = 1 → if zty (T k).2 j = .long then zr64 (FI k j) else zr32 (FI k j)) ∧ (∀ k i, (T k).1 ≠ 0 → if (T k).1 = 4 then zr64 (AI k i) else zr32 (AI k i)) ∧
  (∀ k j b, (T k).1 ≠ 0 → FR k j = some b → (T b).1 ≠ 0) ∧ (∀ k i b, (T k).1 ≠ 0 → AR k i = some b → (T b).1 ≠ 0)
def zM (A : Nat → Prop) (D : va_G) (cs : zCs) (T0 : zTt) (ad0 ad : Nat → Nat) (T : zTt) (FR : zFR) (AR : zAR) (FI : zFI) (AI : zAI) (H : Heap) : Prop :=
  ∃ L : List Nat, L.Nodup ∧ (∀ k, k ∈ L ↔ (T k).1 ≠ 0) ∧ va_P D vwCl (zWd cs ad T FR AR FI AI L) H ∧ va_D A (zWd cs ad T FR AR FI AI L) ∧ zrg T FR AR FI AI ∧ ((∀ k, (T0 k).1 ≠ 0 → (T k).1 ≠ 0 ∧ ad k = ad0 k) ∧ ∀ i, ad (zb + i) = ad0 (zb + i))
def zlv (ad : Nat → Nat) : Nat → List (Option zVal) → List (Nat × Value)
  | _, [] => []
  | i, none :: r => zlv ad (i + 1) r
  | i, some v :: r => (i, zc ad v) :: zlv ad (i + 1) r
theorem zlv_mem (ad : Nat → Nat) (ls : List (Option zVal)) : ∀ (i : Nat) (q : Nat × Value), q ∈ zlv ad i ls ↔ ∃ (j : Nat) (v : zVal), ls[j]? = some (some v) ∧ q = (i + j, zc ad v) := by
  induction ls with
  | nil => intro i q; simp [zlv]
  | cons a r ih =>
    intro i q
    have key : (∃ (j : Nat) (v : zVal), r[j]? = some (some v) ∧ q = (i + 1 + j, zc ad v)) ↔ ∃ (j : Nat) (v : zVal), (a :: r)[j + 1]? = some (some v) ∧ q = (i + (j + 1), zc ad v) := by
      constructor <;> rintro ⟨j, v, h1, h2⟩ <;> exact ⟨j, v, by simpa using h1, by rw [h2]; congr 1; omega⟩
    cases a with
    | none =>
      rw [zlv, ih]
      rw [key]
      constructor
      · rintro ⟨j, v, h1, h2⟩; exact ⟨j + 1, v, h1, h2⟩
      · rintro ⟨j, v, h1, h2⟩
        cases j with
        | zero => simp at h1
        | succ j => exact ⟨j, v, h1, h2⟩
    | some w =>
      rw [zlv, List.mem_cons, ih, key]
      constructor
      · rintro (h | ⟨j, v, h1, h2⟩)
        · exact ⟨0, w, by simp, by simpa using h⟩
        · exact ⟨j + 1, v, h1, h2⟩
      · rintro ⟨j, v, h1, h2⟩
        cases j with
        | zero => left; simp at h1; subst h1; simpa using h2
        | succ j => right; exact ⟨j, v, h1, h2⟩
abbrev zG : Type := Program × Launch × Env × Room × State × MethodId × Array Value × List Frame × Method × Code × (State → Prop) × (Nat → Prop) × va_G × zCs × zTt × (Nat → Nat)
/-- the machine, at pc with these locals, this stack, this heap, comes to the context's end; k cells of n slots are new so far -/
def zV (G : zG) (pc : Nat) (ls : List (Option zVal)) (st : List zVal) (T : zTt) (FR : zFR) (AR : zAR) (FI : zFI) (AI : zAI) (k n : Nat) : Prop := match G with
  | (p, l, e, R, s, m, args, below, meth, c, Q, A, D, cs, T0, ad0) =>
    ∀ (ad : Nat → Nat) (H : Heap) (locs : List Loc) (lsr : Array Slot), zM A D cs T0 ad0 ad T FR AR FI AI H → va_S A s.heap H locs → lv_has lsr c.maxLocals (zlv ad 0 ls) → (∀ v, some v ∈ ls → zok T v) → (∀ v ∈ st, zok T v) →
      W p l e R s m args below meth c H locs k n Q (F0 m pc lsr (st.map (zc ad)))
abbrev zMd : Type := MethodName × ByteArray × Nat × Option FieldType × Room
abbrev zPost : Type := zVal → zTt → zFR → zAR → zFI → zAI → Prop
/-- the words that every method is given -/
def zWs : List Cond := lw_tbl.filter goodWord
theorem zWs_at {w : Cond} (i : Nat) (h : lw_tbl[i]? = some w) (g : goodWord w = true) : w ∈ zWs := List.mem_filter.mpr ⟨List.mem_of_getElem? h, g⟩
theorem zWs_good : ∀ w ∈ zWs, w ∈ zWs ∧ ((w.onTables && w.keeps) = true ∨ ∃ ty, w = .arrayClass ty) := fun w h => ⟨h, good_of_word (List.mem_filter.mp h).2⟩
def zTys (cs : zCs) : List (ClassId × FieldType) := [(cs.1, .int), (cs.2.1, .byte), (cs.2.2.1, .long), (cs.2.2.2.1, .object "DeferredDesk$Book"), (cs.2.2.2.2, .object "DeferredDesk$Closing")]
/-- what is there from the start, and nobody writes -/
def zZs (sa : Nat → Nat) : List (String × String × String × Value) := [("DeferredDesk$Line", "CARRY", "LDeferredDesk$Line;", .ref (sa 0)), ("DeferredDesk$Line", "OFFICE", "LDeferredDesk$Line;", .ref (sa 1)), ("DeferredDesk$Line", "RATE", "LDeferredDesk$Line;", .ref (sa 2)), ("DeferredDesk$Line", "PROFIT", "LDeferredDesk$Line;", .ref (sa 3)), ("DeferredDesk$Line", "TAXABLE", "LDeferredDesk$Line;", .ref (sa 4)), ("DeferredDesk$Line", "DEDUCTIBLE", "LDeferredDesk$Line;", .ref (sa 5)), ("DeferredDesk$Line", "LOSS", "LDeferredDesk$Line;", .ref (sa 6)), ("DeferredDesk$Line", "ALL", "[LDeferredDesk$Line;", .ref (sa 7)), ("DeferredDesk$1", "$SwitchMap$DeferredDesk$Line", "[I", .ref (sa 8)), ("java/lang/String", "COMPACT_STRINGS", "Z", .int 1)]
