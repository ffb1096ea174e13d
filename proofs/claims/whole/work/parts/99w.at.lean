/-! WHAT IS THERE AT THE LAW'S ENTRY -/
def nFl : List Cond := flatC (Jvm.Cond.and given_1 narrow_1)
theorem nAt {b : Nat} {s : State} (hgv : (Jvm.Cond.and given_1 narrow_1).before #[Value.ref b] s = true) {w : Cond} (i : Nat) (h : nFl[i]? = some w) : w.before #[Value.ref b] s = true := flat_of_before _ hgv _ (List.mem_of_getElem? h)
theorem nTb {b : Nat} {s : State} (hts : ∀ w ∈ lw_tbl, w.before #[Value.ref b] s = true) {w : Cond} (i : Nat) (h : lw_tbl[i]? = some w) : w.before #[Value.ref b] s = true := hts w (List.mem_of_getElem? h)
def nSt (i : Nat) : Term := .static "DeferredDesk$Line" (zNm.getD i "") "LDeferredDesk$Line;"
def nK : List Nat := [52, 60, 65, 70, 75, 80, 83, 54, 62, 67, 72, 77, 85]
def nTx (i : Nat) : Term := .string "DeferredDesk$Line" (nK.getD i 0)
def nVl (i : Nat) : Term := .field (nTx i) "java/lang/String" "value" "[B"
def nSB : List Nat := [236, 259, 323, 359, 287, 401, 429, 249, 275, 341, 381, 306, 452]
def nEB : List Nat := [21, 25, 48, 55, 40, 63, 72]
def nNE : List (List Nat) := [[0, 29, 52, 59, 44, 67, 76], [29, 0, 53, 60, 45, 68, 77], [52, 53, 0, 62, 54, 70, 79], [59, 60, 62, 0, 61, 71, 80], [44, 45, 54, 61, 0, 69, 78], [67, 68, 70, 71, 69, 0, 81], [76, 77, 79, 80, 78, 81, 0]]
def nLS : List Nat := [403, 405, 1213, 1214, 448, 1215, 1216]
theorem nS_ex : ∀ i, i < 13 → nFl[nSB.getD i 0]? = some (.exactly (nTx i) "java/lang/String") := by decide +kernel
theorem nS_co : ∀ i, i < 13 → nFl[nSB.getD i 0 + 1]? = some (.eq (.field (nTx i) "java/lang/String" "coder" "B") (.int 0)) := by decide +kernel
theorem nS_ar : ∀ i, i < 13 → nFl[nSB.getD i 0 + 2]? = some (.arrayOf (nVl i) .byte) := by decide +kernel
theorem nS_le : ∀ i, i < 13 → nFl[nSB.getD i 0 + 3]? = some (.eq (.length (nVl i)) (.int (Int32.ofNat (zByt.getD i []).length))) := by decide +kernel
theorem nS_el : ∀ i, i < 13 → ∀ j, j < (zByt.getD i []).length → nFl[nSB.getD i 0 + 4 + j]? = some (.eq (.elem (nVl i) (.int (Int32.ofNat j))) (.int ((zByt.getD i []).getD j 0))) := by decide +kernel
theorem nS_ln : ∀ i, i < 13 → (zByt.getD i []).length < 2 ^ 31 := by decide +kernel
theorem nE_ex : ∀ i, i < 7 → nFl[nEB.getD i 0]? = some (.exactly (nSt i) "DeferredDesk$Line") := by decide +kernel
theorem nE_or : ∀ i, i < 7 → nFl[nEB.getD i 0 + 1]? = some (.eq (.field (nSt i) "java/lang/Enum" "ordinal" "I") (.int (Int32.ofNat i))) := by decide +kernel
theorem nE_wo : ∀ i, i < 7 → nFl[nEB.getD i 0 + 2]? = some (.eq (.field (nSt i) "DeferredDesk$Line" "word" "Ljava/lang/String;") (nTx i)) := by decide +kernel
theorem nE_sl : ∀ i, i < 7 → nFl[nEB.getD i 0 + 3]? = some (.eq (.field (nSt i) "DeferredDesk$Line" "slots" "Ljava/lang/String;") (nTx (zSlo.getD i 0))) := by decide +kernel
theorem nE_ne : ∀ i, i < 7 → ∀ j, j < 7 → i ≠ j → nFl[(nNE.getD i []).getD j 0]? = some (.not (.eq (nSt i) (nSt j))) ∨ nFl[(nNE.getD i []).getD j 0]? = some (.not (.eq (nSt j) (nSt i))) := by decide +kernel
theorem nE_ls : ∀ i, i < 7 → lw_tbl[nLS.getD i 0]? = some (.laysStatic "DeferredDesk$Line" (zNm.getD i "") "LDeferredDesk$Line;") := by decide +kernel
theorem nSlo_lt : ∀ i, i < 7 → zSlo.getD i 0 < 13 := by decide
def nAll : Term := .static "DeferredDesk$Line" "ALL" "[LDeferredDesk$Line;"
def nSwi : Term := .static "DeferredDesk$1" "$SwitchMap$DeferredDesk$Line" "[I"
theorem nA_ar : nFl[6]? = some (.arrayOf nAll (.object "DeferredDesk$Line")) := by decide +kernel
theorem nA_le : nFl[7]? = some (.eq (.length nAll) (.int (Int32.ofNat 7))) := by decide +kernel
theorem nA_el : ∀ j, j < 7 → nFl[9 + j]? = some (.eq (.elem nAll (.int (Int32.ofNat j))) (nSt j)) := by decide +kernel
theorem nW_ar : nFl[31]? = some (.arrayOf nSwi .int) := by decide +kernel
theorem nW_le : nFl[32]? = some (.eq (.length nSwi) (.int (Int32.ofNat 7))) := by decide +kernel
theorem nW_el : ∀ j, j < 7 → nFl[33 + j]? = some (.eq (.elem nSwi (.int (Int32.ofNat j))) (.int (zSw.getD j 0))) := by decide +kernel
def nXB (n : Nat) : Nat × Nat := if n = 106 then (113, 776) else if n = 119 then (129, 802) else if n = 128 then (173, 815) else (191, 816)
theorem nX_ex : ∀ q ∈ zXs, nFl[(nXB q.1).1]? = some (.exactly (.string "DeferredDesk" q.1) "java/lang/String") := by decide +kernel
theorem nX_sr : ∀ q ∈ zXs, lw_tbl[(nXB q.1).2]? = some (.stringRef "DeferredDesk" q.1 q.2) := by decide +kernel
theorem va_T.feq {ty : FieldType} {t N : Nat} {f g : Nat → Value} {A : Nat → Prop} {U : State} {H : Heap} (h : va_T ty t N f A U H) (e : ∀ j, j < N → f j = g j) : va_T ty t N g A U H := by
  obtain ⟨cell, h1, h2, h3, h4, h5, h6, h7⟩ := h
  exact ⟨cell, h1, h2, h3, h4, h5, fun j hj => by rw [← e j hj]; exact h6 j hj, h7⟩
