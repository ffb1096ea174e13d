/-! NEW HANDLES from lo to hi: all else stays -/
def zGr (lo hi : Nat) (T T' : zTt) (FR FR' : zFR) (AR AR' : zAR) (FI FI' : zFI) (AI AI' : zAI) : Prop := ∀ h, h < lo ∨ hi < h → T' h = T h ∧ FR' h = FR h ∧ AR' h = AR h ∧ FI' h = FI h ∧ AI' h = AI h
theorem zsT_ne {T : zTt} {h k : Nat} {t : Nat × Nat} (e : k ≠ h) : zsT T h t k = T k := if_neg e
theorem zsT_eq {T : zTt} {h : Nat} {t : Nat × Nat} : zsT T h t h = t := if_pos rfl
theorem zzR_neF {FR : zFR} {h k : Nat} (e : k ≠ h) : zzR FR h k = FR k := funext fun _ => if_neg e
theorem zzQ_neF {AR : zAR} {h k : Nat} (e : k ≠ h) : zzQ AR h k = AR k := funext fun _ => if_neg e
theorem zzF_neF {FI : zFI} {h k : Nat} (e : k ≠ h) : zzF FI h k = FI k := funext fun _ => if_neg e
theorem zzA_neF {AI : zAI} {h k : Nat} (e : k ≠ h) : zzA AI h k = AI k := funext fun _ => if_neg e
theorem zzA_eq {AI : zAI} {h : Nat} {i : Int} : zzA AI h h i = 0 := if_pos rfl
theorem zzF_eq {FI : zFI} {h j : Nat} : zzF FI h h j = 0 := if_pos rfl
theorem zsR_neF {FR : zFR} {o k j : Nat} {r : Option Nat} (e : k ≠ o) : zsR FR o j r k = FR k := funext fun _ => if_neg (fun z => e z.1)
theorem zsR_eq {FR : zFR} {o j : Nat} {r : Option Nat} : zsR FR o j r o j = r := if_pos ⟨rfl, rfl⟩
theorem zsR_nj {FR : zFR} {o k j j' : Nat} {r : Option Nat} (e : j' ≠ j) : zsR FR o j r k j' = FR k j' := if_neg (fun z => e z.2)
theorem zsF_neF {FI : zFI} {o k j : Nat} {x : Int} (e : k ≠ o) : zsF FI o j x k = FI k := funext fun _ => if_neg (fun z => e z.1)
