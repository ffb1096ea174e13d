theorem zrow_eqF {AI : zAI} {a : Nat} {f : Int → Int} : zrow AI a f a = f := funext fun _ => if_pos rfl
/-- b is the loss that is used next in year y, among the first k; -1: none -/
def zNx (lf lp : Int → Int) (y k b : Int) : Prop := (b = -1 ∧ ∀ q : Int, 0 ≤ q → q < k → ¬ (0 < lf q ∧ y ≤ lp q)) ∨ (0 ≤ b ∧ b < k ∧ 0 < lf b ∧ y ≤ lp b ∧ ∀ q : Int, 0 ≤ q → q < k → 0 < lf q → y ≤ lp q → lp b ≤ lp q)
theorem zNx_0 {lf lp : Int → Int} {y : Int} : zNx lf lp y 0 (-1) := Or.inl ⟨rfl, fun q h0 h1 => by omega⟩
theorem zNx_skip {lf lp : Int → Int} {y k b : Int} (h : zNx lf lp y k b) (hs : lf k ≤ 0 ∨ lp k < y) : zNx lf lp y (k + 1) b := by
  rcases h with ⟨h1, h2⟩ | ⟨h1, h2, h3, h4, h5⟩
  · refine Or.inl ⟨h1, fun q h0 hq => ?_⟩
    by_cases e : q = k
    · rw [e]; omega
    · exact h2 q h0 (by omega)
  · refine Or.inr ⟨h1, by omega, h3, h4, fun q h0 hq g1 g2 => ?_⟩
    by_cases e : q = k
    · rw [e] at g1 g2; omega
    · exact h5 q h0 (by omega) g1 g2
theorem zNx_keep {lf lp : Int → Int} {y k b : Int} (h : zNx lf lp y k b) (hb : ¬ b = -1) (hs : lp b ≤ lp k) : zNx lf lp y (k + 1) b := by
  rcases h with ⟨h1, h2⟩ | ⟨h1, h2, h3, h4, h5⟩
  · exact absurd h1 hb
  · refine Or.inr ⟨h1, by omega, h3, h4, fun q h0 hq g1 g2 => ?_⟩
    by_cases e : q = k
    · rw [e]; exact hs
    · exact h5 q h0 (by omega) g1 g2
theorem zNx_new {lf lp : Int → Int} {y k b : Int} (h : zNx lf lp y k b) (hk : 0 ≤ k) (g1 : 0 < lf k) (g2 : y ≤ lp k) (hs : b = -1 ∨ lp k < lp b) : zNx lf lp y (k + 1) k := by
  refine Or.inr ⟨hk, by omega, g1, g2, fun q h0 hq q1 q2 => ?_⟩
  by_cases e : q = k
  · rw [e]; omega
  · rcases h with ⟨h1, h2⟩ | ⟨h1, h2, h3, h4, h5⟩
    · exact absurd ⟨q1, q2⟩ (h2 q h0 (by omega))
    · have := h5 q h0 (by omega) q1 q2
      omega
theorem zNx_in {lf lp : Int → Int} {y k b : Int} (h : zNx lf lp y k b) (hb : ¬ b = -1) : 0 ≤ b ∧ b < k := by
  rcases h with ⟨h1, h2⟩ | ⟨h1, h2, -⟩
  · exact absurd h1 hb
  · exact ⟨h1, h2⟩
set_option maxRecDepth 20000 in
theorem s_X9_nextLoss {T : zTt} {FR : zFR} {AR : zAR} {FI : zFI} {AI : zAI} {Post : zPost} {y : Int} (hL : mLay T FR) (hp : ∀ b : Int, zNx (AI 116) (AI 117) y 50 b → Post (zI b) T FR AR FI AI) : zMet M_X9_nextLoss [zR 100, zI y] T FR AR FI AI Post := by
  refine zMet.of [some (zR 100), some (zI y), none, none] rfl rfl rfl (fun G C => ?_)
  refine zv_iconst C dX9_nextLoss_0 rfl ?_
  refine zv_istore_2 C dX9_nextLoss_1 rfl rfl ?_
  refine zv_iconst C dX9_nextLoss_2 rfl ?_
  refine zv_istore_3 C dX9_nextLoss_3 rfl rfl ?_
  suffices lp : ∀ (d : Nat) (k b : Int), k + d = 50 → 0 ≤ k → zNx (AI 116) (AI 117) y k b → zV G 4 [some (zR 100), some (zI y), some (zI b), some (zI k)] [] T FR AR FI AI 0 0 from lp 50 0 (-1) (by omega) (by omega) zNx_0
  intro d
  induction d with
  | zero =>
    intro k b hk h0 hx
    refine zv_iload_n C dX9_nextLoss_4 rfl ?_
    refine zv_bipush C dX9_nextLoss_5 rfl ?_
    refine zv_icmp_ge C 57 dX9_nextLoss_7 rfl (fun h7 => ?_) (fun h7 => absurd h7 (by omega))
    refine zv_iload_n C dX9_nextLoss_57 rfl ?_
    refine zv_ireturn C dX9_nextLoss_58 rfl rfl rfl rfl ?_
    have ej : k = 50 := by omega
    rw [ej] at hx
    exact hp b hx
  | succ d ih =>
    intro k b hk h0 hx
    refine zv_iload_n C dX9_nextLoss_4 rfl ?_
    refine zv_bipush C dX9_nextLoss_5 rfl ?_
    refine zv_icmp_ge C 57 dX9_nextLoss_7 rfl (fun h7 => absurd h7 (by omega)) (fun h7 => ?_)
    refine zv_aload_n C dX9_nextLoss_10 rfl rfl ?_
    refine zv_getR C dX9_nextLoss_11 f_X9_83 hL.1 rfl hL.2.2.2.2.2.2.2.2.2.2.2.2.2.2.2.2.2.2.1 ?_
    refine zv_iload_n C dX9_nextLoss_14 rfl ?_
    refine zv_iaload C dX9_nextLoss_15 hL.2.2.2.2.2.1 ⟨by omega, by omega⟩ ?_
    refine zv_if_le C 51 dX9_nextLoss_16 rfl (fun h16 => ?_) (fun h16 => ?_)
    · refine zv_iinc_3 C dX9_nextLoss_51 rfl rfl ⟨by omega, by omega⟩ ?_
      refine zv_goto C 4 dX9_nextLoss_54 rfl ?_
      first
      | exact ih (k + 1) _ (by omega) (by omega) (zNx_skip hx (by omega))
      | exact ih (k + 1) _ (by omega) (by omega) (zNx_keep hx (by omega) (by omega))
      | exact ih (k + 1) _ (by omega) (by omega) (zNx_new hx (by omega) (by omega) (by omega) (by omega))
    · refine zv_aload_n C dX9_nextLoss_19 rfl rfl ?_
      refine zv_getR C dX9_nextLoss_20 f_X9_86 hL.1 rfl hL.2.2.2.2.2.2.2.2.2.2.2.2.2.2.2.2.2.2.2.1 ?_
      refine zv_iload_n C dX9_nextLoss_23 rfl ?_
      refine zv_iaload C dX9_nextLoss_24 hL.2.2.2.2.2.2.1 ⟨by omega, by omega⟩ ?_
      refine zv_iload_n C dX9_nextLoss_25 rfl ?_
      refine zv_icmp_lt C 51 dX9_nextLoss_26 rfl (fun h26 => ?_) (fun h26 => ?_)
      · refine zv_iinc_3 C dX9_nextLoss_51 rfl rfl ⟨by omega, by omega⟩ ?_
        refine zv_goto C 4 dX9_nextLoss_54 rfl ?_
        first
        | exact ih (k + 1) _ (by omega) (by omega) (zNx_skip hx (by omega))
        | exact ih (k + 1) _ (by omega) (by omega) (zNx_keep hx (by omega) (by omega))
        | exact ih (k + 1) _ (by omega) (by omega) (zNx_new hx (by omega) (by omega) (by omega) (by omega))
      · refine zv_iload_n C dX9_nextLoss_29 rfl ?_
        refine zv_iconst C dX9_nextLoss_30 rfl ?_
        refine zv_icmp_eq C 49 dX9_nextLoss_31 rfl (fun h31 => ?_) (fun h31 => ?_)
        · refine zv_iload_n C dX9_nextLoss_49 rfl ?_
          refine zv_istore_2 C dX9_nextLoss_50 rfl rfl ?_
          refine zv_iinc_3 C dX9_nextLoss_51 rfl rfl ⟨by omega, by omega⟩ ?_
          refine zv_goto C 4 dX9_nextLoss_54 rfl ?_
          first
          | exact ih (k + 1) _ (by omega) (by omega) (zNx_skip hx (by omega))
          | exact ih (k + 1) _ (by omega) (by omega) (zNx_keep hx (by omega) (by omega))
          | exact ih (k + 1) _ (by omega) (by omega) (zNx_new hx (by omega) (by omega) (by omega) (by omega))
        · refine zv_aload_n C dX9_nextLoss_34 rfl rfl ?_
          refine zv_getR C dX9_nextLoss_35 f_X9_86 hL.1 rfl hL.2.2.2.2.2.2.2.2.2.2.2.2.2.2.2.2.2.2.2.1 ?_
          refine zv_iload_n C dX9_nextLoss_38 rfl ?_
          refine zv_iaload C dX9_nextLoss_39 hL.2.2.2.2.2.2.1 ⟨by omega, by omega⟩ ?_
          refine zv_aload_n C dX9_nextLoss_40 rfl rfl ?_
          refine zv_getR C dX9_nextLoss_41 f_X9_86 hL.1 rfl hL.2.2.2.2.2.2.2.2.2.2.2.2.2.2.2.2.2.2.2.1 ?_
          refine zv_iload_n C dX9_nextLoss_44 rfl ?_
          have hbi := zNx_in hx h31
          refine zv_iaload C dX9_nextLoss_45 hL.2.2.2.2.2.2.1 ⟨by omega, by omega⟩ ?_
          refine zv_icmp_ge C 51 dX9_nextLoss_46 rfl (fun h46 => ?_) (fun h46 => ?_)
          · refine zv_iinc_3 C dX9_nextLoss_51 rfl rfl ⟨by omega, by omega⟩ ?_
            refine zv_goto C 4 dX9_nextLoss_54 rfl ?_
            first
            | exact ih (k + 1) _ (by omega) (by omega) (zNx_skip hx (by omega))
            | exact ih (k + 1) _ (by omega) (by omega) (zNx_keep hx (by omega) (by omega))
            | exact ih (k + 1) _ (by omega) (by omega) (zNx_new hx (by omega) (by omega) (by omega) (by omega))
          · refine zv_iload_n C dX9_nextLoss_49 rfl ?_
            refine zv_istore_2 C dX9_nextLoss_50 rfl rfl ?_
            refine zv_iinc_3 C dX9_nextLoss_51 rfl rfl ⟨by omega, by omega⟩ ?_
            refine zv_goto C 4 dX9_nextLoss_54 rfl ?_
            first
            | exact ih (k + 1) _ (by omega) (by omega) (zNx_skip hx (by omega))
            | exact ih (k + 1) _ (by omega) (by omega) (zNx_keep hx (by omega) (by omega))
            | exact ih (k + 1) _ (by omega) (by omega) (zNx_new hx (by omega) (by omega) (by omega) (by omega))

def zUse (lf0 lp : Int → Int) (y much n : Int) (lf : Int → Int) : Prop := (∀ k : Int, 0 ≤ k → k < 50 → 0 ≤ lf k ∧ lf k ≤ lf0 k) ∧ (∀ l, zLs lf lp y l = max 0 (zLs lf0 lp y l - n)) ∧ 0 ≤ n ∧ n ≤ much ∧ n ≤ zLs lf0 lp y 59
theorem zUse_0 {lf lp : Int → Int} {y much : Int} (h : ∀ k : Int, 0 ≤ k → k < 50 → 0 ≤ lf k) (hm : 0 ≤ much) : zUse lf lp y much 0 lf := ⟨fun k h0 h1 => ⟨h k h0 h1, by omega⟩, fun l => by have := zLs_nn (lp := lp) h y l; omega, by omega, hm, zLs_nn h y 59⟩
theorem zUse_step {lf0 lp lf : Int → Int} {y much n b v : Int} (h : zUse lf0 lp y much n lf) (hx : zNx lf lp y 50 b) (hb : ¬ b = -1) (hlp : ∀ k : Int, 0 ≤ k → k < 50 → lp k ≤ 59) (hv : v = min (lf b) (much - n)) (hm : n < much) : zUse lf0 lp y much (n + v) (zu1 lf b (lf b - v)) ∧ 0 < v := by
  rcases hx with ⟨h1, -⟩ | ⟨h1, h2, h3, h4, h5⟩
  · exact absurd h1 hb
  · obtain ⟨u1, u2, u3, u4, u5⟩ := h
    have hv0 : 0 < v := by omega
    have hvl : v ≤ lf b := by omega
    have hst := zLs_step (lf0 := lf0) (lf := lf) (lp := lp) (t := y) (n := n) h1 h2 (fun k h0 h1 => (u1 k h0 h1).1) u2 h4 h5 hv0 hvl
    refine ⟨⟨fun k h0 hk => ?_, hst, by omega, by omega, ?_⟩, hv0⟩
    · by_cases e : k = b
      · rw [e, zu1_eq]; have := u1 b h1 h2; omega
      · rw [zu1_ne e]; exact u1 k h0 hk
    · have hl9 := hlp b h1 h2
      have ht : (if y ≤ lp b ∧ lp b ≤ 59 then lf b else 0) ≤ zLs lf lp y 59 := zS_term (f := fun k => if y ≤ lp k ∧ lp k ≤ 59 then lf k else 0) 50 (fun i g0 g1 => by have := (u1 i g0 g1).1; split <;> omega) b h1 h2
      rw [if_pos ⟨h4, hl9⟩, u2 59] at ht
      omega
theorem zUse_end {lf0 lp lf : Int → Int} {y much n b : Int} (h : zUse lf0 lp y much n lf) (hx : zNx lf lp y 50 b) (he : much ≤ n ∨ b = -1) : n = min much (zLs lf0 lp y 59) := by
  obtain ⟨u1, u2, u3, u4, u5⟩ := h
  rcases he with he | he
  · omega
  · rcases hx with ⟨-, h2⟩ | ⟨h1, -⟩
    · have h0 := zLs_none (lf := lf) (lp := lp) (t := y) (l := 59) (fun k h0 h1 => (u1 k h0 h1).1) (fun k g0 g1 g2 g3 => absurd ⟨g2, g3⟩ (h2 k g0 g1))
      rw [u2 59] at h0
      omega
    · omega
set_option maxRecDepth 20000 in
theorem s_X9_usesLosses {T : zTt} {FR : zFR} {AR : zAR} {FI : zFI} {AI : zAI} {Post : zPost} {y much : Int} (hL : mLay T FR) (hnn : ∀ k : Int, 0 ≤ k → k < 50 → 0 ≤ AI 116 k ∧ AI 116 k ≤ 3000000) (hlp : ∀ k : Int, 0 ≤ k → k < 50 → AI 117 k ≤ 59) (g0 : 0 ≤ much) (g1 : much ≤ 4000000) (hp : ∀ lf : Int → Int, (∀ k : Int, 0 ≤ k → k < 50 → 0 ≤ lf k ∧ lf k ≤ AI 116 k) → (∀ l, zLs lf (AI 117) y l = max 0 (zLs (AI 116) (AI 117) y l - min much (zLs (AI 116) (AI 117) y 59))) → Post (zI (min much (zLs (AI 116) (AI 117) y 59))) T FR AR FI (zrow AI 116 lf)) : zMet M_X9_usesLosses [zR 100, zI y, zI much] T FR AR FI AI Post := by
  refine zMet.of [some (zR 100), some (zI y), some (zI much), none, none, none] rfl rfl rfl (fun G C => ?_)
  refine zv_iconst C dX9_usesLosses_0 rfl ?_
  refine zv_istore_3 C dX9_usesLosses_1 rfl rfl ?_
  refine zv_aload_n C dX9_usesLosses_2 rfl rfl ?_
  refine zv_iload_n C dX9_usesLosses_3 rfl ?_
  refine zv_cVi0_1 C dX9_usesLosses_4 k_X9_nextLoss l_X9_202 hL.1 rfl ⟨Nat.le_of_ble_eq_true rfl, Nat.le_of_ble_eq_true rfl⟩ ⟨rfl, rfl⟩ ⟨Nat.le_of_ble_eq_true rfl, Nat.le_of_ble_eq_true rfl⟩ rfl rfl ?_
  refine s_X9_nextLoss hL (fun b hx => ?_)
  refine zv_istore_4 C dX9_usesLosses_7 rfl rfl ?_
  suffices lp : ∀ (d : Nat) (n b : Int) (a5 : Option zVal) (lf : Int → Int), (much - n).toNat ≤ d → zUse (AI 116) (AI 117) y much n lf → zNx lf (AI 117) y 50 b → zV G 9 [some (zR 100), some (zI y), some (zI much), some (zI n), some (zI b), a5] [] T FR AR FI (zrow AI 116 lf) 0 0 from by
    have q := lp (much - 0).toNat 0 b none (AI 116) (by omega) (zUse_0 (fun k h0 h1 => (hnn k h0 h1).1) (by omega)) hx
    rw [zrow_self] at q
    exact q
  intro d
  induction d with
  | zero =>
    intro n b a5 lf hd hu hx
    obtain ⟨u1, u2, u3, u4, u5⟩ := id hu
    refine zv_iload_n C dX9_usesLosses_9 rfl ?_
    refine zv_iload_n C dX9_usesLosses_10 rfl ?_
    refine zv_icmp_ge C 75 dX9_usesLosses_11 rfl (fun h11 => ?_) (fun h11 => absurd h11 (by omega))
    refine zv_iload_n C dX9_usesLosses_75 rfl ?_
    refine zv_ireturn C dX9_usesLosses_76 rfl rfl rfl rfl ?_
    have en := zUse_end hu hx (by omega)
    rw [en] at hu ⊢
    exact hp lf (fun k h0 h1 => hu.1 k h0 h1) hu.2.1
  | succ d ih =>
    intro n b a5 lf hd hu hx
    obtain ⟨u1, u2, u3, u4, u5⟩ := id hu
    refine zv_iload_n C dX9_usesLosses_9 rfl ?_
    refine zv_iload_n C dX9_usesLosses_10 rfl ?_
    refine zv_icmp_ge C 75 dX9_usesLosses_11 rfl (fun h11 => ?_) (fun h11 => ?_)
    · refine zv_iload_n C dX9_usesLosses_75 rfl ?_
      refine zv_ireturn C dX9_usesLosses_76 rfl rfl rfl rfl ?_
      have en := zUse_end hu hx (by omega)
      rw [en] at hu ⊢
      exact hp lf (fun k h0 h1 => hu.1 k h0 h1) hu.2.1
    · refine zv_iload C dX9_usesLosses_14 rfl ?_
      refine zv_iconst C dX9_usesLosses_16 rfl ?_
      refine zv_icmp_eq C 75 dX9_usesLosses_17 rfl (fun h17 => ?_) (fun h17 => ?_)
      · refine zv_iload_n C dX9_usesLosses_75 rfl ?_
        refine zv_ireturn C dX9_usesLosses_76 rfl rfl rfl rfl ?_
        have en := zUse_end hu hx (by omega)
        rw [en] at hu ⊢
        exact hp lf (fun k h0 h1 => hu.1 k h0 h1) hu.2.1
      · have hbi := zNx_in hx h17
        have hbl := u1 b hbi.1 hbi.2
        have hbm := hnn b hbi.1 hbi.2
        refine zv_aload_n C dX9_usesLosses_20 rfl rfl ?_
        refine zv_getR C dX9_usesLosses_21 f_X9_83 hL.1 rfl hL.2.2.2.2.2.2.2.2.2.2.2.2.2.2.2.2.2.2.1 ?_
        refine zv_iload C dX9_usesLosses_24 rfl ?_
        refine zv_iaload C dX9_usesLosses_26 hL.2.2.2.2.2.1 ⟨by omega, by omega⟩ ?_
        rw [zrow_eq]
        refine zv_iload_n C dX9_usesLosses_27 rfl ?_
        refine zv_iload_n C dX9_usesLosses_28 rfl ?_
        refine zv_isub C dX9_usesLosses_29 ⟨by omega, by omega⟩ ?_
        refine zv_icmp_ge C 43 dX9_usesLosses_30 rfl (fun h30 => ?_) (fun h30 => ?_)
        · refine zv_iload_n C dX9_usesLosses_43 rfl ?_
          refine zv_iload_n C dX9_usesLosses_44 rfl ?_
          refine zv_isub C dX9_usesLosses_45 ⟨by omega, by omega⟩ ?_
          rw [show much - n = min (lf b) (much - n) by omega]
          refine zv_istore_5 C dX9_usesLosses_46 rfl rfl ?_
          refine zv_aload_n C dX9_usesLosses_48 rfl rfl ?_
          refine zv_getR C dX9_usesLosses_49 f_X9_83 hL.1 rfl hL.2.2.2.2.2.2.2.2.2.2.2.2.2.2.2.2.2.2.1 ?_
          refine zv_iload C dX9_usesLosses_52 rfl ?_
          refine zv_dup2 C dX9_usesLosses_54 rfl rfl ?_
          refine zv_iaload C dX9_usesLosses_55 hL.2.2.2.2.2.1 ⟨by omega, by omega⟩ ?_
          rw [zrow_eq]
          refine zv_iload C dX9_usesLosses_56 rfl ?_
          refine zv_isub C dX9_usesLosses_58 ⟨by omega, by omega⟩ ?_
          refine zv_iastore C dX9_usesLosses_59 hL.2.2.2.2.2.1 ⟨by omega, by omega⟩ ?_
          rw [zrow_set]
          have hst := zUse_step hu hx h17 (fun k h0 h1 => (hlp k h0 h1)) rfl (by omega)
          refine zv_iload_n C dX9_usesLosses_60 rfl ?_
          refine zv_iload C dX9_usesLosses_61 rfl ?_
          refine zv_iadd C dX9_usesLosses_63 ⟨by omega, by omega⟩ ?_
          refine zv_istore_3 C dX9_usesLosses_64 rfl rfl ?_
          refine zv_aload_n C dX9_usesLosses_65 rfl rfl ?_
          refine zv_iload_n C dX9_usesLosses_66 rfl ?_
          refine zv_cVi0_1 C dX9_usesLosses_67 k_X9_nextLoss l_X9_202 hL.1 rfl ⟨Nat.le_of_ble_eq_true rfl, Nat.le_of_ble_eq_true rfl⟩ ⟨rfl, rfl⟩ ⟨Nat.le_of_ble_eq_true rfl, Nat.le_of_ble_eq_true rfl⟩ rfl rfl ?_
          refine s_X9_nextLoss hL (fun b2 hx2 => ?_)
          rw [zrow_eqF, zrow_neF (by decide)] at hx2
          refine zv_istore_4 C dX9_usesLosses_70 rfl rfl ?_
          refine zv_goto C 9 dX9_usesLosses_72 rfl ?_
          exact ih _ _ _ _ (by omega) hst.1 hx2
        · refine zv_aload_n C dX9_usesLosses_33 rfl rfl ?_
          refine zv_getR C dX9_usesLosses_34 f_X9_83 hL.1 rfl hL.2.2.2.2.2.2.2.2.2.2.2.2.2.2.2.2.2.2.1 ?_
          refine zv_iload C dX9_usesLosses_37 rfl ?_
          refine zv_iaload C dX9_usesLosses_39 hL.2.2.2.2.2.1 ⟨by omega, by omega⟩ ?_
          rw [zrow_eq]
          refine zv_goto C 46 dX9_usesLosses_40 rfl ?_
          rw [show lf b = min (lf b) (much - n) by omega]
          refine zv_istore_5 C dX9_usesLosses_46 rfl rfl ?_
          refine zv_aload_n C dX9_usesLosses_48 rfl rfl ?_
          refine zv_getR C dX9_usesLosses_49 f_X9_83 hL.1 rfl hL.2.2.2.2.2.2.2.2.2.2.2.2.2.2.2.2.2.2.1 ?_
          refine zv_iload C dX9_usesLosses_52 rfl ?_
          refine zv_dup2 C dX9_usesLosses_54 rfl rfl ?_
          refine zv_iaload C dX9_usesLosses_55 hL.2.2.2.2.2.1 ⟨by omega, by omega⟩ ?_
          rw [zrow_eq]
          refine zv_iload C dX9_usesLosses_56 rfl ?_
          refine zv_isub C dX9_usesLosses_58 ⟨by omega, by omega⟩ ?_
          refine zv_iastore C dX9_usesLosses_59 hL.2.2.2.2.2.1 ⟨by omega, by omega⟩ ?_
          rw [zrow_set]
          have hst := zUse_step hu hx h17 (fun k h0 h1 => (hlp k h0 h1)) rfl (by omega)
          refine zv_iload_n C dX9_usesLosses_60 rfl ?_
          refine zv_iload C dX9_usesLosses_61 rfl ?_
          refine zv_iadd C dX9_usesLosses_63 ⟨by omega, by omega⟩ ?_
          refine zv_istore_3 C dX9_usesLosses_64 rfl rfl ?_
          refine zv_aload_n C dX9_usesLosses_65 rfl rfl ?_
          refine zv_iload_n C dX9_usesLosses_66 rfl ?_
          refine zv_cVi0_1 C dX9_usesLosses_67 k_X9_nextLoss l_X9_202 hL.1 rfl ⟨Nat.le_of_ble_eq_true rfl, Nat.le_of_ble_eq_true rfl⟩ ⟨rfl, rfl⟩ ⟨Nat.le_of_ble_eq_true rfl, Nat.le_of_ble_eq_true rfl⟩ rfl rfl ?_
          refine s_X9_nextLoss hL (fun b2 hx2 => ?_)
          rw [zrow_eqF, zrow_neF (by decide)] at hx2
          refine zv_istore_4 C dX9_usesLosses_70 rfl rfl ?_
          refine zv_goto C 9 dX9_usesLosses_72 rfl ?_
          exact ih _ _ _ _ (by omega) hst.1 hx2

set_option maxRecDepth 20000 in
theorem s_X9_taxOn {T : zTt} {FR : zFR} {AR : zAR} {FI : zFI} {AI : zAI} {Post : zPost} {a r : Int} (g0 : 0 ≤ a) (g1 : a ≤ 100000000) (g2 : 0 ≤ r) (g3 : r ≤ 1000) (hp : Post (zI (a * r / 1000)) T FR AR FI AI) : zMet M_X9_taxOn [zI a, zI r] T FR AR FI AI Post := by
  refine zMet.of [some (zI a), some (zI r)] rfl rfl rfl (fun G C => ?_)
  have hm := zmulb g0 g1 g2 g3
  refine zv_iload_n C dX9_taxOn_0 rfl ?_
  refine zv_i2l C dX9_taxOn_1 ?_
  refine zv_iload_n C dX9_taxOn_2 rfl ?_
  refine zv_i2l C dX9_taxOn_3 ?_
  refine zv_lmul C dX9_taxOn_4 ⟨by omega, by omega⟩ ?_
  refine zv_ldc2 (x := 1000) C dX9_taxOn_5 c_X9_205 rfl ?_
  refine zv_ldiv C dX9_taxOn_8 (by omega) (by omega) ?_
  refine zv_l2i C dX9_taxOn_9 ⟨by omega, by omega⟩ ?_
  refine zv_ireturn C dX9_taxOn_10 rfl rfl rfl rfl ?_
  exact hp
