/-! WHAT IS THERE FROM THE START: the seven lines (sa 0 .. 6), their array (sa 7), the switch map (sa 8), the texts (sa 10 ..), their bytes (sa 30 ..), the texts of exceptions (sa 50 ..) -/
def zByt : List (List Int32) := [[99, 97, 114, 114, 121], [111, 102, 102, 105, 99, 101], [114, 97, 116, 101], [112, 114, 111, 102, 105, 116], [116, 97, 120, 97, 98, 108, 101], [100, 101, 100, 117, 99, 116, 105, 98, 108, 101], [108, 111, 115, 115], [78], [82], [79, 89, 82], [79, 89, 83], [79, 83, 70, 76], [79, 83, 70]]
def zSlo : List Nat := [7, 8, 9, 10, 11, 11, 12]
def zSw : List Int32 := [5, 1, 6, 7, 2, 3, 4]
def zNm : List String := ["CARRY", "OFFICE", "RATE", "PROFIT", "TAXABLE", "DEDUCTIBLE", "LOSS"]
def zOFs (sa : Nat → Nat) : List (String × String × String × Value × Nat) := ((List.range 7).flatMap fun i => [("DeferredDesk$Line", "word", "Ljava/lang/String;", Value.ref (sa (10 + i)), sa i), ("DeferredDesk$Line", "slots", "Ljava/lang/String;", Value.ref (sa (10 + zSlo.getD i 0)), sa i), ("java/lang/Enum", "ordinal", "I", Value.int (Int32.ofNat i), sa i)]) ++ ((List.range 13).flatMap fun j => [("java/lang/String", "coder", "B", Value.int 0, sa (10 + j)), ("java/lang/String", "value", "[B", Value.ref (sa (30 + j)), sa (10 + j))])
def zTSs (sa : Nat → Nat) : List (FieldType × Nat × Nat × (Nat → Value)) := [(.object "DeferredDesk$Line", sa 7, 7, fun j => Value.ref (sa j)), (.int, sa 8, 7, fun j => Value.int (zSw.getD j 0))] ++ (List.range 13).map fun j => (.byte, sa (30 + j), (zByt.getD j []).length, fun i => Value.int ((zByt.getD j []).getD i 0))
def zOSs (sa : Nat → Nat) : List (String × Nat) := ((List.range 7).map fun i => ("DeferredDesk$Line", sa i)) ++ (List.range 13).map fun j => ("java/lang/String", sa (10 + j))
def zXs : List (Nat × String) := [(106, "no such item"), (119, "nothing of that kind is told of an item"), (128, "no such loss"), (130, "nothing of that kind is told of a loss")]
def zSio (sa : Nat → Nat) (A : Nat → Prop) (U : State) (H : Heap) : Prop := va_Z "jdk/internal/util/Preconditions" "SIOOBE_FORMATTER" "Ljava/util/function/BiFunction;" .null A U H ∨ va_Z "jdk/internal/util/Preconditions" "SIOOBE_FORMATTER" "Ljava/util/function/BiFunction;" (.ref (sa 9)) A U H
def zNms : List (String × Nat × MethodName) := [(RX8, 11, yX6_init), (RX6, 11, yX7_init), (RX6, 24, yX2_init), (RX8, 23, yX4_init), (RX8, 30, yX1_init), (RX8, 43, yX2_init), (RX1, 19, yX2_init), (RX8, 261, yX3_init)]
/-- members of nest mates, arrays of ours -/
def zNst (U : State) : Prop := (∀ q ∈ zNms, va_Nw (.methodLinkNest q.1 q.2.1 q.2.2 "DeferredDesk") U) ∧ va_Nw (.fieldLinkNest RX6 74 "DeferredDesk$Line" "ALL" "[LDeferredDesk$Line;" "DeferredDesk") U ∧ va_AO "DeferredDesk$Book" U ∧ va_AO "DeferredDesk$Closing" U
theorem zNst.warm {u U : State} (hW : u.WarmedH U.vm) (h : zNst u) : zNst U := ⟨fun q hq => va_Nw.warmM hW (h.1 q hq), va_Nw.warmF hW h.2.1, va_AO.moved hW.alike h.2.2.1, va_AO.moved hW.alike h.2.2.2⟩
theorem zNst.same {u U : State} (hv : u.vm = U.vm) (h : zNst u) : zNst U := ⟨fun q hq => va_Nw.same rfl hv (h.1 q hq), va_Nw.same rfl hv h.2.1, va_AO.moved (hv ▸ Vm.Alike.refl u.vm) h.2.2.1, va_AO.moved (hv ▸ Vm.Alike.refl u.vm) h.2.2.2⟩
def zSta (sa : Nat → Nat) (A : Nat → Prop) (U : State) (H : Heap) : Prop :=
  ((∀ q ∈ zZs sa, va_Z q.1 q.2.1 q.2.2.1 q.2.2.2 A U H) ∧ (∀ q ∈ zOFs sa, va_OF q.1 q.2.1 q.2.2.1 q.2.2.2.1 q.2.2.2.2 A U H) ∧ (∀ q ∈ zTSs sa, va_T q.1 q.2.1 q.2.2.1 q.2.2.2 A U H) ∧ (∀ q ∈ zOSs sa, va_O q.1 q.2 A U H) ∧
  vx_Zq Bundle.tN "UNASSIGNED_STACK" Bundle.steD A U H ∧ vx_Zq Bundle.tN "SUPPRESSED_SENTINEL" Bundle.listD A U H ∧ zSio sa A U H) ∧ (∀ q ∈ zXs, vk_R "DeferredDesk" q.1 q.2 (sa q.1) U) ∧ (∀ i j, i < 7 → j < 7 → sa i = sa j → i = j) ∧ zNst U
theorem zSta.moved {sa : Nat → Nat} {A : Nat → Prop} {u U : State} {H : Heap} (hW : u.WarmedH U.vm) (h : zSta sa A u H) : zSta sa A U H := by
  obtain ⟨⟨h1, h2, h3, h4, h5, h6, h9⟩, h7, h8, h10⟩ := h
  exact ⟨⟨fun q hq => va_Z.moved hW.alike (h1 q hq), fun q hq => va_OF.moved hW.alike (h2 q hq), fun q hq => va_T.moved hW.alike (h3 q hq), fun q hq => va_O.moved hW.alike (h4 q hq), vx_Zq.moved hW.alike h5, vx_Zq.moved hW.alike h6, h9.imp (va_Z.moved hW.alike) (va_Z.moved hW.alike)⟩, fun q hq => vk_R.warm hW (h7 q hq), h8, h10.warm hW⟩
theorem zSta.kept {sa : Nat → Nat} {A : Nat → Prop} {U : State} {H H1 : Heap} (h : zSta sa A U H) (hq : ∀ a : Nat, a < H.size → ¬ A a → H1[a]? = H[a]?) : zSta sa A U H1 := by
  obtain ⟨⟨h1, h2, h3, h4, h5, h6, h9⟩, h7, h8, h10⟩ := h
  exact ⟨⟨fun q h => (h1 q h).kept hq, fun q h => (h2 q h).kept hq, fun q h => (h3 q h).kept hq, fun q h => (h4 q h).kept hq, h5.kept hq, h6.kept hq, h9.imp (fun z => z.kept hq) (fun z => z.kept hq)⟩, h7, h8, h10⟩
theorem zSta.narrow {sa : Nat → Nat} {A B : Nat → Prop} {U : State} {H : Heap} (h : zSta sa A U H) (hAB : ∀ q, B q → A q) : zSta sa B U H := by
  obtain ⟨⟨h1, h2, h3, h4, h5, h6, h9⟩, h7, h8, h10⟩ := h
  exact ⟨⟨fun q h => (h1 q h).narrow hAB, fun q h => (h2 q h).narrow hAB, fun q h => (h3 q h).narrow hAB, fun q h => (h4 q h).narrow hAB, h5.narrow hAB, h6.narrow hAB, h9.imp (fun z => z.narrow hAB) (fun z => z.narrow hAB)⟩, h7, h8, h10⟩
theorem zSta.calling {sa : Nat → Nat} {A : Nat → Prop} {U : State} {H : Heap} {g : JFrame} {mk : MethodId} {a : Array Value} (h : zSta sa A U H) : zSta sa A (U.calling g mk a) H := by
  obtain ⟨⟨h1, h2, h3, h4, h5, h6, h9⟩, h7, h8, h10⟩ := h
  have hv : U.vm.Alike (U.calling g mk a).vm := Vm.Alike.refl U.vm
  exact ⟨⟨fun q hq => va_Z.moved hv (h1 q hq), fun q hq => va_OF.moved hv (h2 q hq), fun q hq => va_T.moved hv (h3 q hq), fun q hq => va_O.moved hv (h4 q hq), vx_Zq.moved hv h5, vx_Zq.moved hv h6, h9.imp (va_Z.moved hv) (va_Z.moved hv)⟩, fun q hq => vk_R.same (u := U) rfl (h7 q hq), h8, h10.same (u := U) rfl⟩
/-- what a value that is given back is to the machine -/
def zret (ret : Option FieldType) (ad : Nat → Nat) (r : zVal) : Option Value := match ret with
  | none => none
  | some _ => some (zc ad r)
/-- a method's end -/
def zQ (D : va_G) (cs : zCs) (T0 : zTt) (ad0 : Nat → Nat) (Post : zPost) (ret : Option FieldType) (A : Nat → Prop) : Array Value → State → Outcome → State → Prop := fun _ st oc t =>
  (∃ (r : zVal) (T : zTt) (FR : zFR) (AR : zAR) (FI : zFI) (AI : zAI) (ad : Nat → Nat), oc = .returned (zret ret ad r) ∧ Post r T FR AR FI AI ∧ zM A D cs T0 ad0 ad T FR AR FI AI t.heap ∧ zok T r) ∧ va_F A st t
/-- what is known inside a method -/
def zCx (M : zMd) (Post : zPost) (G : zG) : Prop := match G with
  | (p, l, e, R, s, m, args, below, meth, c, Q, A, D, cs, T0, ad0) =>
    p.tables.exec = Jvm.exec ∧ c.code = M.2.1 ∧ c.maxLocals = M.2.2.1 ∧ meth.sig.returnType = M.2.2.2.1 ∧ meth.locks = false ∧ meth.name = M.1.name ∧ s.vm.findClass M.1.cls = some m.cls ∧ (∀ w ∈ zWs, w.before args s = true) ∧ va_K D vwCl (zTys cs) s ∧
    (∀ q, s.heap.size ≤ q → A q) ∧ R = M.2.2.2.2 ∧ (∀ t, MQ below (zQ D cs T0 ad0 Post M.2.2.2.1 A) args s M.2.2.2.2.cells M.2.2.2.2.slots A t → Q t) ∧ zSta (fun i => ad0 (zb + i)) A s s.heap ∧ l.flags = flags0
def zws (M : zMd) : List Cond := Cond.code M.1 M.2.1 M.2.2.1 M.2.2.2.1 :: zWs
/-- a method's start: its arguments, and the heap -/
def zB (as : List zVal) (D : va_G) (cs : zCs) (ad : Nat → Nat) (L : List Nat) (T : zTt) (FR : zFR) (AR : zAR) (FI : zFI) (AI : zAI) (sz : Nat) (U : State) : Prop :=
  U.heap.size = sz ∧ va_P D vwCl (zWd cs ad T FR AR FI AI L) U.heap ∧ va_K D vwCl (zTys cs) U ∧ zSta (fun i => ad (zb + i)) (va_A (zWd cs ad T FR AR FI AI L) sz) U U.heap
/-- THE CONTRACT of a method on given arguments and a given heap -/
def zMet (M : zMd) (as : List zVal) (T : zTt) (FR : zFR) (AR : zAR) (FI : zFI) (AI : zAI) (Post : zPost) : Prop :=
  ∀ (l : Launch) (D : va_G) (cs : zCs) (ad : Nat → Nat) (L : List Nat) (sz : Nat), l.flags = flags0 → L.Nodup → (∀ k, k ∈ L ↔ (T k).1 ≠ 0) → zrg T FR AR FI AI → va_D (fun _ => True) (zWd cs ad T FR AR FI AI L) → (∀ v ∈ as, zok T v) →
    Met l M.1 (zws M) M.2.2.2.2 (va_Pc (as.map (zc ad)) (zB as D cs ad L T FR AR FI AI sz)) (zQ D cs T ad Post M.2.2.2.1 (va_A (zWd cs ad T FR AR FI AI L) sz)) M.2.2.2.2.cells M.2.2.2.2.slots (va_A (zWd cs ad T FR AR FI AI L) sz)
def zent : List zVal → List (Option zVal)
  | [] => []
  | .inr (.inl x) :: r => some (zL x) :: none :: zent r
  | v :: r => some v :: zent r
