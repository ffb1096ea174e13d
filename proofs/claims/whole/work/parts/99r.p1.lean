set_option maxRecDepth 20000 in
theorem law_0 {nm : String} {G : zG} (C : zCx (M_law nm) zPF G) {b L : Nat} {xs : Nat → Int32} (S : zScr b L xs G) (E : zExs G) {T : zTt} {FR : zFR} {AR : zAR} {FI : zFI} {AI : zAI} {B D : Nat} {i : Int} {w5 w6 : Option zVal} {k n : Nat} (h : lR T FR AR FI AI B D) (i0 : 0 ≤ i) (i6 : i + 6 ≤ L) (iL : L ≤ 3072) (hk : k + 29 ≤ 601024) (hn : n + 979 ≤ 7293034) (kk : ∀ (w5 w6 : Option zVal) (T : zTt) (FR : zFR) (AR : zAR) (FI : zFI) (AI : zAI) (B D : Nat), lR T FR AR FI AI B D → zV G 966 [some (zA 99), some (zR 0), some (zR 100), some (zR 90), some (zI i), w5, w6] [] T FR AR FI AI (k + 29) (n + 979)) : zV G 136 [some (zA 99), some (zR 0), some (zR 100), some (zR 90), some (zI i), w5, w6] [] T FR AR FI AI k n := by
  obtain ⟨⟨gBD, hd, hc, hB, hD, hL, h90, hs, hsl⟩, ⟨t1, t2, t3, t4⟩, ⟨r1, r2, r3, r4, r5, r6, r7, r8, r9⟩⟩ := id h
  have hW := r1.1
  have gB : 14 ≤ B := by omega
  have b0 := mG_b r1
  refine zv_aload_n C dL_law_136 rfl rfl ?_
  refine zv_aload_n C dL_law_137 rfl rfl ?_
  refine zv_iload C dL_law_138 rfl ?_
  refine zv_iconst C dL_law_140 rfl ?_
  refine zv_iadd C dL_law_141 ⟨by omega, by omega⟩ ?_
  refine zv_sld C S dL_law_142 ⟨by omega, by omega⟩ ?_
  refine zv_aload_n C dL_law_143 rfl rfl ?_
  refine zv_iload C dL_law_144 rfl ?_
  refine zv_iconst C dL_law_146 rfl ?_
  refine zv_iadd C dL_law_147 ⟨by omega, by omega⟩ ?_
  refine zv_sld C S dL_law_148 ⟨by omega, by omega⟩ ?_
  refine zv_aload_n C dL_law_149 rfl rfl ?_
  refine zv_iload C dL_law_150 rfl ?_
  refine zv_iconst C dL_law_152 rfl ?_
  refine zv_iadd C dL_law_153 ⟨by omega, by omega⟩ ?_
  refine zv_sld C S dL_law_154 ⟨by omega, by omega⟩ ?_
  refine zv_aload_n C dL_law_155 rfl rfl ?_
  refine zv_iload C dL_law_156 rfl ?_
  refine zv_iconst C dL_law_158 rfl ?_
  refine zv_iadd C dL_law_159 ⟨by omega, by omega⟩ ?_
  refine zv_sld C S dL_law_160 ⟨by omega, by omega⟩ ?_
  refine zv_aload_n C dL_law_161 rfl rfl ?_
  refine zv_iload C dL_law_162 rfl ?_
  refine zv_iconst C dL_law_164 rfl ?_
  refine zv_iadd C dL_law_165 ⟨by omega, by omega⟩ ?_
  refine zv_sld C S dL_law_166 ⟨by omega, by omega⟩ ?_
  refine zv_cVi0_5 C dL_law_167 k_X8_feed l_L_22 hd.1 rfl ⟨(by first | exact Nat.le_of_ble_eq_true rfl | (show _ ≤ (601024 : Nat); omega) | (show _ ≤ (7293034 : Nat); omega)), (by first | exact Nat.le_of_ble_eq_true rfl | (show _ ≤ (601024 : Nat); omega) | (show _ ≤ (7293034 : Nat); omega))⟩ ⟨rfl, rfl⟩ ⟨(by first | exact Nat.le_of_ble_eq_true rfl | (show _ ≤ (601024 : Nat); omega) | (show _ ≤ (7293034 : Nat); omega)), (by first | exact Nat.le_of_ble_eq_true rfl | (show _ ≤ (601024 : Nat); omega) | (show _ ≤ (7293034 : Nat); omega))⟩ rfl rfl ?_
  refine s_X8_feed hd (by omega) (by omega) (fun c => ?_) (fun c => ?_)
  · refine zv_aload_n C dL_law_170 rfl rfl ?_
    refine zv_aload_n C dL_law_171 rfl rfl ?_
    refine zv_iload C dL_law_172 rfl ?_
    refine zv_iconst C dL_law_174 rfl ?_
    refine zv_iadd C dL_law_175 ⟨by omega, by omega⟩ ?_
    refine zv_sld C S dL_law_176 ⟨by omega, by omega⟩ ?_
    refine zv_aload_n C dL_law_177 rfl rfl ?_
    refine zv_iload C dL_law_178 rfl ?_
    refine zv_iconst C dL_law_180 rfl ?_
    refine zv_iadd C dL_law_181 ⟨by omega, by omega⟩ ?_
    refine zv_sld C S dL_law_182 ⟨by omega, by omega⟩ ?_
    refine zv_aload_n C dL_law_183 rfl rfl ?_
    refine zv_iload C dL_law_184 rfl ?_
    refine zv_iconst C dL_law_186 rfl ?_
    refine zv_iadd C dL_law_187 ⟨by omega, by omega⟩ ?_
    refine zv_sld C S dL_law_188 ⟨by omega, by omega⟩ ?_
    refine zv_aload_n C dL_law_189 rfl rfl ?_
    refine zv_iload C dL_law_190 rfl ?_
    refine zv_iconst C dL_law_192 rfl ?_
    refine zv_iadd C dL_law_193 ⟨by omega, by omega⟩ ?_
    refine zv_sld C S dL_law_194 ⟨by omega, by omega⟩ ?_
    refine zv_aload_n C dL_law_195 rfl rfl ?_
    refine zv_iload C dL_law_196 rfl ?_
    refine zv_iconst C dL_law_198 rfl ?_
    refine zv_iadd C dL_law_199 ⟨by omega, by omega⟩ ?_
    refine zv_sld C S dL_law_200 ⟨by omega, by omega⟩ ?_
    refine zv_cVi0_5 C dL_law_201 k_X9_feed l_L_26 hL.1 rfl ⟨(by first | exact Nat.le_of_ble_eq_true rfl | (show _ ≤ (601024 : Nat); omega) | (show _ ≤ (7293034 : Nat); omega)), (by first | exact Nat.le_of_ble_eq_true rfl | (show _ ≤ (601024 : Nat); omega) | (show _ ≤ (7293034 : Nat); omega))⟩ ⟨rfl, rfl⟩ ⟨(by first | exact Nat.le_of_ble_eq_true rfl | (show _ ≤ (601024 : Nat); omega) | (show _ ≤ (7293034 : Nat); omega)), (by first | exact Nat.le_of_ble_eq_true rfl | (show _ ≤ (601024 : Nat); omega) | (show _ ≤ (7293034 : Nat); omega))⟩ rfl rfl ?_
    refine s_X9_feed hL (by omega) (by omega) (fun c2 => ?_) (fun c2 => absurd c2 (by omega))
    refine zv_icmp_eq C 966 dL_law_204 rfl (fun h204 => ?_) (fun h204 => absurd h204 (by exact fun z => z (by first | rfl | omega)))
    exact zv_widen (by omega) (by omega) (kk _ _ _ _ _ _ _ _ _ (lR_fr h (fun o j p1 p2 => zsF_ne (by omega)) (fun _ _ _ _ _ => rfl)))
  · refine zv_aload_n C dL_law_170 rfl rfl ?_
    refine zv_aload_n C dL_law_171 rfl rfl ?_
    refine zv_iload C dL_law_172 rfl ?_
    refine zv_iconst C dL_law_174 rfl ?_
    refine zv_iadd C dL_law_175 ⟨by omega, by omega⟩ ?_
    refine zv_sld C S dL_law_176 ⟨by omega, by omega⟩ ?_
    refine zv_aload_n C dL_law_177 rfl rfl ?_
    refine zv_iload C dL_law_178 rfl ?_
    refine zv_iconst C dL_law_180 rfl ?_
    refine zv_iadd C dL_law_181 ⟨by omega, by omega⟩ ?_
    refine zv_sld C S dL_law_182 ⟨by omega, by omega⟩ ?_
    refine zv_aload_n C dL_law_183 rfl rfl ?_
    refine zv_iload C dL_law_184 rfl ?_
    refine zv_iconst C dL_law_186 rfl ?_
    refine zv_iadd C dL_law_187 ⟨by omega, by omega⟩ ?_
    refine zv_sld C S dL_law_188 ⟨by omega, by omega⟩ ?_
    refine zv_aload_n C dL_law_189 rfl rfl ?_
    refine zv_iload C dL_law_190 rfl ?_
    refine zv_iconst C dL_law_192 rfl ?_
    refine zv_iadd C dL_law_193 ⟨by omega, by omega⟩ ?_
    refine zv_sld C S dL_law_194 ⟨by omega, by omega⟩ ?_
    refine zv_aload_n C dL_law_195 rfl rfl ?_
    refine zv_iload C dL_law_196 rfl ?_
    refine zv_iconst C dL_law_198 rfl ?_
    refine zv_iadd C dL_law_199 ⟨by omega, by omega⟩ ?_
    refine zv_sld C S dL_law_200 ⟨by omega, by omega⟩ ?_
    have e2 : zsF FI 1 1 (FI 1 1 + 20) 100 2 = FI 100 2 := zsF_ne (by omega)
    refine zv_cVi0_5 C dL_law_201 k_X9_feed l_L_26 hL.1 rfl ⟨(by first | exact Nat.le_of_ble_eq_true rfl | (show _ ≤ (601024 : Nat); omega) | (show _ ≤ (7293034 : Nat); omega)), (by first | exact Nat.le_of_ble_eq_true rfl | (show _ ≤ (601024 : Nat); omega) | (show _ ≤ (7293034 : Nat); omega))⟩ ⟨rfl, rfl⟩ ⟨(by first | exact Nat.le_of_ble_eq_true rfl | (show _ ≤ (601024 : Nat); omega) | (show _ ≤ (7293034 : Nat); omega)), (by first | exact Nat.le_of_ble_eq_true rfl | (show _ ≤ (601024 : Nat); omega) | (show _ ≤ (7293034 : Nat); omega))⟩ rfl rfl ?_
    refine s_X9_feed hL (by rw [e2]; omega) (by rw [e2]; omega) (fun c2 => absurd c (by rw [e2] at c2; omega)) (fun c2 => ?_)
    rw [e2]
    refine zv_icmp_eq C 966 dL_law_204 rfl (fun h204 => ?_) (fun h204 => absurd h204 (by exact fun z => z (by first | rfl | omega)))
    exact zv_widen (by omega) (by omega) (kk _ _ _ _ _ _ _ _ _ (lR_feed h c))
set_option maxRecDepth 20000 in
theorem law_1 {nm : String} {G : zG} (C : zCx (M_law nm) zPF G) {b L : Nat} {xs : Nat → Int32} (S : zScr b L xs G) (E : zExs G) {T : zTt} {FR : zFR} {AR : zAR} {FI : zFI} {AI : zAI} {B D : Nat} {i : Int} {w5 w6 : Option zVal} {k n : Nat} (h : lR T FR AR FI AI B D) (i0 : 0 ≤ i) (i6 : i + 6 ≤ L) (iL : L ≤ 3072) (hk : k + 29 ≤ 601024) (hn : n + 979 ≤ 7293034) (kk : ∀ (w5 w6 : Option zVal) (T : zTt) (FR : zFR) (AR : zAR) (FI : zFI) (AI : zAI) (B D : Nat), lR T FR AR FI AI B D → zV G 966 [some (zA 99), some (zR 0), some (zR 100), some (zR 90), some (zI i), w5, w6] [] T FR AR FI AI (k + 29) (n + 979)) : zV G 209 [some (zA 99), some (zR 0), some (zR 100), some (zR 90), some (zI i), w5, w6] [] T FR AR FI AI k n := by
  obtain ⟨⟨gBD, hd, hc, hB, hD, hL, h90, hs, hsl⟩, ⟨t1, t2, t3, t4⟩, ⟨r1, r2, r3, r4, r5, r6, r7, r8, r9⟩⟩ := id h
  have hW := r1.1
  have gB : 14 ≤ B := by omega
  have b0 := mG_b r1
  refine zv_aload_n C dL_law_209 rfl rfl ?_
  refine zv_aload_n C dL_law_210 rfl rfl ?_
  refine zv_iload C dL_law_211 rfl ?_
  refine zv_iconst C dL_law_213 rfl ?_
  refine zv_iadd C dL_law_214 ⟨by omega, by omega⟩ ?_
  refine zv_sld C S dL_law_215 ⟨by omega, by omega⟩ ?_
  refine zv_cVi0_1 C dL_law_216 k_X8_end l_L_27 hd.1 rfl ⟨(by first | exact Nat.le_of_ble_eq_true rfl | (show _ ≤ (601024 : Nat); omega) | (show _ ≤ (7293034 : Nat); omega)), (by first | exact Nat.le_of_ble_eq_true rfl | (show _ ≤ (601024 : Nat); omega) | (show _ ≤ (7293034 : Nat); omega))⟩ ⟨rfl, rfl⟩ ⟨(by first | exact Nat.le_of_ble_eq_true rfl | (show _ ≤ (601024 : Nat); omega) | (show _ ≤ (7293034 : Nat); omega)), (by first | exact Nat.le_of_ble_eq_true rfl | (show _ ≤ (601024 : Nat); omega) | (show _ ≤ (7293034 : Nat); omega))⟩ rfl rfl ?_
  refine s_X8_end hd (fun b1 => ?_) (fun b1 => ?_)
  · refine zv_aload_n C dL_law_219 rfl rfl ?_
    refine zv_aload_n C dL_law_220 rfl rfl ?_
    refine zv_iload C dL_law_221 rfl ?_
    refine zv_iconst C dL_law_223 rfl ?_
    refine zv_iadd C dL_law_224 ⟨by omega, by omega⟩ ?_
    refine zv_sld C S dL_law_225 ⟨by omega, by omega⟩ ?_
    refine zv_cVi0_1 C dL_law_226 k_X9_end l_L_31 hL.1 rfl ⟨(by first | exact Nat.le_of_ble_eq_true rfl | (show _ ≤ (601024 : Nat); omega) | (show _ ≤ (7293034 : Nat); omega)), (by first | exact Nat.le_of_ble_eq_true rfl | (show _ ≤ (601024 : Nat); omega) | (show _ ≤ (7293034 : Nat); omega))⟩ ⟨rfl, rfl⟩ ⟨(by first | exact Nat.le_of_ble_eq_true rfl | (show _ ≤ (601024 : Nat); omega) | (show _ ≤ (7293034 : Nat); omega)), (by first | exact Nat.le_of_ble_eq_true rfl | (show _ ≤ (601024 : Nat); omega) | (show _ ≤ (7293034 : Nat); omega))⟩ rfl rfl ?_
    refine s_X9_end hL (fun b2 => ?_) (fun b2 => absurd (show _ ∧ _ from ⟨b1.1, by rw [zsF_ne (by omega)]; omega⟩) b2)
    refine zv_icmp_eq C 966 dL_law_229 rfl (fun h229 => ?_) (fun h229 => absurd h229 (by exact fun z => z (by first | rfl | omega)))
    exact zv_widen (by omega) (by omega) (kk _ _ _ _ _ _ _ _ _ (lR_end h b1.1 b1.2))
  · refine zv_aload_n C dL_law_219 rfl rfl ?_
    refine zv_aload_n C dL_law_220 rfl rfl ?_
    refine zv_iload C dL_law_221 rfl ?_
    refine zv_iconst C dL_law_223 rfl ?_
    refine zv_iadd C dL_law_224 ⟨by omega, by omega⟩ ?_
    refine zv_sld C S dL_law_225 ⟨by omega, by omega⟩ ?_
    refine zv_cVi0_1 C dL_law_226 k_X9_end l_L_31 hL.1 rfl ⟨(by first | exact Nat.le_of_ble_eq_true rfl | (show _ ≤ (601024 : Nat); omega) | (show _ ≤ (7293034 : Nat); omega)), (by first | exact Nat.le_of_ble_eq_true rfl | (show _ ≤ (601024 : Nat); omega) | (show _ ≤ (7293034 : Nat); omega))⟩ ⟨rfl, rfl⟩ ⟨(by first | exact Nat.le_of_ble_eq_true rfl | (show _ ≤ (601024 : Nat); omega) | (show _ ≤ (7293034 : Nat); omega)), (by first | exact Nat.le_of_ble_eq_true rfl | (show _ ≤ (601024 : Nat); omega) | (show _ ≤ (7293034 : Nat); omega))⟩ rfl rfl ?_
    refine s_X9_end hL (fun b2 => absurd b1 (by omega)) (fun b2 => ?_)
    refine zv_icmp_eq C 966 dL_law_229 rfl (fun h229 => ?_) (fun h229 => absurd h229 (by exact fun z => z (by first | rfl | omega)))
    exact zv_widen (by omega) (by omega) (kk _ _ _ _ _ _ _ _ _ (lR_fr h (fun o j p1 p2 => zsF_ne (by omega)) (fun _ _ _ _ _ => rfl)))
set_option maxRecDepth 20000 in
theorem law_3 {nm : String} {G : zG} (C : zCx (M_law nm) zPF G) {b L : Nat} {xs : Nat → Int32} (S : zScr b L xs G) (E : zExs G) {T : zTt} {FR : zFR} {AR : zAR} {FI : zFI} {AI : zAI} {B D : Nat} {i : Int} {w5 w6 : Option zVal} {k n : Nat} (h : lR T FR AR FI AI B D) (i0 : 0 ≤ i) (i6 : i + 6 ≤ L) (iL : L ≤ 3072) (hk : k + 29 ≤ 601024) (hn : n + 979 ≤ 7293034) (kk : ∀ (w5 w6 : Option zVal) (T : zTt) (FR : zFR) (AR : zAR) (FI : zFI) (AI : zAI) (B D : Nat), lR T FR AR FI AI B D → zV G 966 [some (zA 99), some (zR 0), some (zR 100), some (zR 90), some (zI i), w5, w6] [] T FR AR FI AI (k + 29) (n + 979)) : zV G 247 [some (zA 99), some (zR 0), some (zR 100), some (zR 90), some (zI i), w5, w6] [] T FR AR FI AI k n := by
  obtain ⟨⟨gBD, hd, hc, hB, hD, hL, h90, hs, hsl⟩, ⟨t1, t2, t3, t4⟩, ⟨r1, r2, r3, r4, r5, r6, r7, r8, r9⟩⟩ := id h
  have hW := r1.1
  have gB : 14 ≤ B := by omega
  have b0 := mG_b r1
  refine zv_aload_n C dL_law_247 rfl rfl ?_
  refine zv_cVi0_0 C dL_law_248 k_X8_fault l_L_37 hd.1 rfl ⟨(by first | exact Nat.le_of_ble_eq_true rfl | (show _ ≤ (601024 : Nat); omega) | (show _ ≤ (7293034 : Nat); omega)), (by first | exact Nat.le_of_ble_eq_true rfl | (show _ ≤ (601024 : Nat); omega) | (show _ ≤ (7293034 : Nat); omega))⟩ ⟨rfl, rfl⟩ ⟨(by first | exact Nat.le_of_ble_eq_true rfl | (show _ ≤ (601024 : Nat); omega) | (show _ ≤ (7293034 : Nat); omega)), (by first | exact Nat.le_of_ble_eq_true rfl | (show _ ≤ (601024 : Nat); omega) | (show _ ≤ (7293034 : Nat); omega))⟩ rfl rfl ?_
  refine s_X8_fault hd ?_
  refine zv_aload_n C dL_law_251 rfl rfl ?_
  refine zv_cVi0_0 C dL_law_252 k_X9_fault l_L_40 hL.1 rfl ⟨(by first | exact Nat.le_of_ble_eq_true rfl | (show _ ≤ (601024 : Nat); omega) | (show _ ≤ (7293034 : Nat); omega)), (by first | exact Nat.le_of_ble_eq_true rfl | (show _ ≤ (601024 : Nat); omega) | (show _ ≤ (7293034 : Nat); omega))⟩ ⟨rfl, rfl⟩ ⟨(by first | exact Nat.le_of_ble_eq_true rfl | (show _ ≤ (601024 : Nat); omega) | (show _ ≤ (7293034 : Nat); omega)), (by first | exact Nat.le_of_ble_eq_true rfl | (show _ ≤ (601024 : Nat); omega) | (show _ ≤ (7293034 : Nat); omega))⟩ rfl rfl ?_
  refine s_X9_fault hL ?_
  refine zv_icmp_eq C 966 dL_law_255 rfl (fun h255 => ?_) (fun h255 => absurd h255 (by exact fun z => z (by first | rfl | omega)))
  exact zv_widen (by omega) (by omega) (kk _ _ _ _ _ _ _ _ _ (lR_fr h (fun o j p1 p2 => zsF_ne (by omega)) (fun _ _ _ _ _ => rfl)))
set_option maxRecDepth 20000 in
theorem law_4 {nm : String} {G : zG} (C : zCx (M_law nm) zPF G) {b L : Nat} {xs : Nat → Int32} (S : zScr b L xs G) (E : zExs G) {T : zTt} {FR : zFR} {AR : zAR} {FI : zFI} {AI : zAI} {B D : Nat} {i : Int} {w5 w6 : Option zVal} {k n : Nat} (h : lR T FR AR FI AI B D) (i0 : 0 ≤ i) (i6 : i + 6 ≤ L) (iL : L ≤ 3072) (hk : k + 29 ≤ 601024) (hn : n + 979 ≤ 7293034) (kk : ∀ (w5 w6 : Option zVal) (T : zTt) (FR : zFR) (AR : zAR) (FI : zFI) (AI : zAI) (B D : Nat), lR T FR AR FI AI B D → zV G 966 [some (zA 99), some (zR 0), some (zR 100), some (zR 90), some (zI i), w5, w6] [] T FR AR FI AI (k + 29) (n + 979)) : zV G 260 [some (zA 99), some (zR 0), some (zR 100), some (zR 90), some (zI i), w5, w6] [] T FR AR FI AI k n := by
  obtain ⟨⟨gBD, hd, hc, hB, hD, hL, h90, hs, hsl⟩, ⟨t1, t2, t3, t4⟩, ⟨r1, r2, r3, r4, r5, r6, r7, r8, r9⟩⟩ := id h
  have hW := r1.1
  have gB : 14 ≤ B := by omega
  have b0 := mG_b r1
  refine zv_aload_n C dL_law_260 rfl rfl ?_
  refine zv_aload_n C dL_law_261 rfl rfl ?_
  refine zv_iload C dL_law_262 rfl ?_
  refine zv_iconst C dL_law_264 rfl ?_
  refine zv_iadd C dL_law_265 ⟨by omega, by omega⟩ ?_
  refine zv_sld C S dL_law_266 ⟨by omega, by omega⟩ ?_
  refine zv_cVi0_1 C dL_law_267 k_X8_now l_L_41 hd.1 rfl ⟨(by first | exact Nat.le_of_ble_eq_true rfl | (show _ ≤ (601024 : Nat); omega) | (show _ ≤ (7293034 : Nat); omega)), (by first | exact Nat.le_of_ble_eq_true rfl | (show _ ≤ (601024 : Nat); omega) | (show _ ≤ (7293034 : Nat); omega))⟩ ⟨rfl, rfl⟩ ⟨(by first | exact Nat.le_of_ble_eq_true rfl | (show _ ≤ (601024 : Nat); omega) | (show _ ≤ (7293034 : Nat); omega)), (by first | exact Nat.le_of_ble_eq_true rfl | (show _ ≤ (601024 : Nat); omega) | (show _ ≤ (7293034 : Nat); omega))⟩ rfl rfl ?_
  refine s_X8_now hd hc hB r2 hW gB ?_
  refine zv_aload_n C dL_law_270 rfl rfl ?_
  refine zv_aload_n C dL_law_271 rfl rfl ?_
  refine zv_iload C dL_law_272 rfl ?_
  refine zv_iconst C dL_law_274 rfl ?_
  refine zv_iadd C dL_law_275 ⟨by omega, by omega⟩ ?_
  refine zv_sld C S dL_law_276 ⟨by omega, by omega⟩ ?_
  refine zv_cVi0_1 C dL_law_277 k_X9_now l_L_45 hL.1 rfl ⟨(by first | exact Nat.le_of_ble_eq_true rfl | (show _ ≤ (601024 : Nat); omega) | (show _ ≤ (7293034 : Nat); omega)), (by first | exact Nat.le_of_ble_eq_true rfl | (show _ ≤ (601024 : Nat); omega) | (show _ ≤ (7293034 : Nat); omega))⟩ ⟨rfl, rfl⟩ ⟨(by first | exact Nat.le_of_ble_eq_true rfl | (show _ ≤ (601024 : Nat); omega) | (show _ ≤ (7293034 : Nat); omega)), (by first | exact Nat.le_of_ble_eq_true rfl | (show _ ≤ (601024 : Nat); omega) | (show _ ≤ (7293034 : Nat); omega))⟩ rfl rfl ?_
  refine s_X9_now hL hW ?_
  rw [r5, t1]
  refine zv_icmp_eq C 966 dL_law_280 rfl (fun h280 => ?_) (fun h280 => absurd h280 (by exact fun z => z (by first | rfl | omega)))
  exact zv_widen (by omega) (by omega) (kk _ _ _ _ _ _ _ _ _ (lR_fr h (fun o j p1 p2 => zsF_ne (by omega)) (fun _ _ _ _ _ => rfl)))
set_option maxRecDepth 20000 in
theorem law_7 {nm : String} {G : zG} (C : zCx (M_law nm) zPF G) {b L : Nat} {xs : Nat → Int32} (S : zScr b L xs G) (E : zExs G) {T : zTt} {FR : zFR} {AR : zAR} {FI : zFI} {AI : zAI} {B D : Nat} {i : Int} {w5 w6 : Option zVal} {k n : Nat} (h : lR T FR AR FI AI B D) (i0 : 0 ≤ i) (i6 : i + 6 ≤ L) (iL : L ≤ 3072) (hk : k + 29 ≤ 601024) (hn : n + 979 ≤ 7293034) (kk : ∀ (w5 w6 : Option zVal) (T : zTt) (FR : zFR) (AR : zAR) (FI : zFI) (AI : zAI) (B D : Nat), lR T FR AR FI AI B D → zV G 966 [some (zA 99), some (zR 0), some (zR 100), some (zR 90), some (zI i), w5, w6] [] T FR AR FI AI (k + 29) (n + 979)) : zV G 421 [some (zA 99), some (zR 0), some (zR 100), some (zR 90), some (zI i), w5, w6] [] T FR AR FI AI k n := by
  obtain ⟨⟨gBD, hd, hc, hB, hD, hL, h90, hs, hsl⟩, ⟨t1, t2, t3, t4⟩, ⟨r1, r2, r3, r4, r5, r6, r7, r8, r9⟩⟩ := id h
  have hW := r1.1
  have gB : 14 ≤ B := by omega
  have b0 := mG_b r1
  refine zv_aload_n C dL_law_421 rfl rfl ?_
  refine zv_aload_n C dL_law_422 rfl rfl ?_
  refine zv_iload C dL_law_423 rfl ?_
  refine zv_iconst C dL_law_425 rfl ?_
  refine zv_iadd C dL_law_426 ⟨by omega, by omega⟩ ?_
  refine zv_sld C S dL_law_427 ⟨by omega, by omega⟩ ?_
  refine zv_aload_n C dL_law_428 rfl rfl ?_
  refine zv_iload C dL_law_429 rfl ?_
  refine zv_iconst C dL_law_431 rfl ?_
  refine zv_iadd C dL_law_432 ⟨by omega, by omega⟩ ?_
  refine zv_sld C S dL_law_433 ⟨by omega, by omega⟩ ?_
  refine zv_cVi0_2 C dL_law_434 k_X8_rate l_L_58 hd.1 rfl ⟨(by first | exact Nat.le_of_ble_eq_true rfl | (show _ ≤ (601024 : Nat); omega) | (show _ ≤ (7293034 : Nat); omega)), (by first | exact Nat.le_of_ble_eq_true rfl | (show _ ≤ (601024 : Nat); omega) | (show _ ≤ (7293034 : Nat); omega))⟩ ⟨rfl, rfl⟩ ⟨(by first | exact Nat.le_of_ble_eq_true rfl | (show _ ≤ (601024 : Nat); omega) | (show _ ≤ (7293034 : Nat); omega)), (by first | exact Nat.le_of_ble_eq_true rfl | (show _ ≤ (601024 : Nat); omega) | (show _ ≤ (7293034 : Nat); omega))⟩ rfl rfl ?_
  refine s_X8_rate hd hc hB r2 hW gB ?_
  refine zv_aload_n C dL_law_437 rfl rfl ?_
  refine zv_aload_n C dL_law_438 rfl rfl ?_
  refine zv_iload C dL_law_439 rfl ?_
  refine zv_iconst C dL_law_441 rfl ?_
  refine zv_iadd C dL_law_442 ⟨by omega, by omega⟩ ?_
  refine zv_sld C S dL_law_443 ⟨by omega, by omega⟩ ?_
  refine zv_aload_n C dL_law_444 rfl rfl ?_
  refine zv_iload C dL_law_445 rfl ?_
  refine zv_iconst C dL_law_447 rfl ?_
  refine zv_iadd C dL_law_448 ⟨by omega, by omega⟩ ?_
  refine zv_sld C S dL_law_449 ⟨by omega, by omega⟩ ?_
  refine zv_cVi0_2 C dL_law_450 k_X9_rate l_L_61 hL.1 rfl ⟨(by first | exact Nat.le_of_ble_eq_true rfl | (show _ ≤ (601024 : Nat); omega) | (show _ ≤ (7293034 : Nat); omega)), (by first | exact Nat.le_of_ble_eq_true rfl | (show _ ≤ (601024 : Nat); omega) | (show _ ≤ (7293034 : Nat); omega))⟩ ⟨rfl, rfl⟩ ⟨(by first | exact Nat.le_of_ble_eq_true rfl | (show _ ≤ (601024 : Nat); omega) | (show _ ≤ (7293034 : Nat); omega)), (by first | exact Nat.le_of_ble_eq_true rfl | (show _ ≤ (601024 : Nat); omega) | (show _ ≤ (7293034 : Nat); omega))⟩ rfl rfl ?_
  refine s_X9_rate hL hW ?_
  refine zv_icmp_eq C 966 dL_law_453 rfl (fun h453 => ?_) (fun h453 => absurd h453 (by exact fun z => z (by first | rfl | omega)))
  exact zv_widen (by omega) (by omega) (kk _ _ _ _ _ _ _ _ _ (lR_fr h (fun o j p1 p2 => zsF_ne (by omega)) (fun _ _ _ _ _ => rfl)))
set_option maxRecDepth 20000 in
theorem law_8 {nm : String} {G : zG} (C : zCx (M_law nm) zPF G) {b L : Nat} {xs : Nat → Int32} (S : zScr b L xs G) (E : zExs G) {T : zTt} {FR : zFR} {AR : zAR} {FI : zFI} {AI : zAI} {B D : Nat} {i : Int} {w5 w6 : Option zVal} {k n : Nat} (h : lR T FR AR FI AI B D) (i0 : 0 ≤ i) (i6 : i + 6 ≤ L) (iL : L ≤ 3072) (hk : k + 29 ≤ 601024) (hn : n + 979 ≤ 7293034) (kk : ∀ (w5 w6 : Option zVal) (T : zTt) (FR : zFR) (AR : zAR) (FI : zFI) (AI : zAI) (B D : Nat), lR T FR AR FI AI B D → zV G 966 [some (zA 99), some (zR 0), some (zR 100), some (zR 90), some (zI i), w5, w6] [] T FR AR FI AI (k + 29) (n + 979)) : zV G 458 [some (zA 99), some (zR 0), some (zR 100), some (zR 90), some (zI i), w5, w6] [] T FR AR FI AI k n := by
  obtain ⟨⟨gBD, hd, hc, hB, hD, hL, h90, hs, hsl⟩, ⟨t1, t2, t3, t4⟩, ⟨r1, r2, r3, r4, r5, r6, r7, r8, r9⟩⟩ := id h
  have hW := r1.1
  have gB : 14 ≤ B := by omega
  have b0 := mG_b r1
  refine zv_aload_n C dL_law_458 rfl rfl ?_
  refine zv_aload_n C dL_law_459 rfl rfl ?_
  refine zv_iload C dL_law_460 rfl ?_
  refine zv_iconst C dL_law_462 rfl ?_
  refine zv_iadd C dL_law_463 ⟨by omega, by omega⟩ ?_
  refine zv_sld C S dL_law_464 ⟨by omega, by omega⟩ ?_
  refine zv_aload_n C dL_law_465 rfl rfl ?_
  refine zv_iload C dL_law_466 rfl ?_
  refine zv_iconst C dL_law_468 rfl ?_
  refine zv_iadd C dL_law_469 ⟨by omega, by omega⟩ ?_
  refine zv_sld C S dL_law_470 ⟨by omega, by omega⟩ ?_
  refine zv_aload_n C dL_law_471 rfl rfl ?_
  refine zv_iload C dL_law_472 rfl ?_
  refine zv_iconst C dL_law_474 rfl ?_
  refine zv_iadd C dL_law_475 ⟨by omega, by omega⟩ ?_
  refine zv_sld C S dL_law_476 ⟨by omega, by omega⟩ ?_
  refine zv_cVi0_3 C dL_law_477 k_X8_covered l_L_62 hd.1 rfl ⟨(by first | exact Nat.le_of_ble_eq_true rfl | (show _ ≤ (601024 : Nat); omega) | (show _ ≤ (7293034 : Nat); omega)), (by first | exact Nat.le_of_ble_eq_true rfl | (show _ ≤ (601024 : Nat); omega) | (show _ ≤ (7293034 : Nat); omega))⟩ ⟨rfl, rfl⟩ ⟨(by first | exact Nat.le_of_ble_eq_true rfl | (show _ ≤ (601024 : Nat); omega) | (show _ ≤ (7293034 : Nat); omega)), (by first | exact Nat.le_of_ble_eq_true rfl | (show _ ≤ (601024 : Nat); omega) | (show _ ≤ (7293034 : Nat); omega))⟩ rfl rfl ?_
  refine s_X8_covered hd hc hB r2 hW gB (fun F1 A1 cf => ?_)
  have e111 : A1 111 = AI 111 := cf.1 111 (by omega)
  have hW1 : mW (A1 111) (AI 111 3).toNat (AI 111 4).toNat := by rw [e111]; exact hW
  refine zv_aload_n C dL_law_480 rfl rfl ?_
  refine zv_aload_n C dL_law_481 rfl rfl ?_
  refine zv_iload C dL_law_482 rfl ?_
  refine zv_iconst C dL_law_484 rfl ?_
  refine zv_iadd C dL_law_485 ⟨by omega, by omega⟩ ?_
  refine zv_sld C S dL_law_486 ⟨by omega, by omega⟩ ?_
  refine zv_aload_n C dL_law_487 rfl rfl ?_
  refine zv_iload C dL_law_488 rfl ?_
  refine zv_iconst C dL_law_490 rfl ?_
  refine zv_iadd C dL_law_491 ⟨by omega, by omega⟩ ?_
  refine zv_sld C S dL_law_492 ⟨by omega, by omega⟩ ?_
  refine zv_aload_n C dL_law_493 rfl rfl ?_
  refine zv_iload C dL_law_494 rfl ?_
  refine zv_iconst C dL_law_496 rfl ?_
  refine zv_iadd C dL_law_497 ⟨by omega, by omega⟩ ?_
  refine zv_sld C S dL_law_498 ⟨by omega, by omega⟩ ?_
  refine zv_cVi0_3 C dL_law_499 k_X9_covered l_L_66 hL.1 rfl ⟨(by first | exact Nat.le_of_ble_eq_true rfl | (show _ ≤ (601024 : Nat); omega) | (show _ ≤ (7293034 : Nat); omega)), (by first | exact Nat.le_of_ble_eq_true rfl | (show _ ≤ (601024 : Nat); omega) | (show _ ≤ (7293034 : Nat); omega))⟩ ⟨rfl, rfl⟩ ⟨(by first | exact Nat.le_of_ble_eq_true rfl | (show _ ≤ (601024 : Nat); omega) | (show _ ≤ (7293034 : Nat); omega)), (by first | exact Nat.le_of_ble_eq_true rfl | (show _ ≤ (601024 : Nat); omega) | (show _ ≤ (7293034 : Nat); omega))⟩ rfl rfl ?_
  refine s_X9_covered hL hW1 (fun A2 z2 => ?_)
  rw [e111]
  refine zv_icmp_eq C 966 dL_law_502 rfl (fun h502 => ?_) (fun h502 => absurd h502 (by exact fun z => z (by first | rfl | omega)))
  exact zv_widen (by omega) (by omega) (kk _ _ _ _ _ _ _ _ _ (lR_fr h (fun o j p1 p2 => by rw [zsF_ne (by omega)]; exact cf.2 o j (Or.inl p1)) (fun a p1 p2 p3 p4 => by rw [z2 a (by omega)]; exact cf.1 a p1)))
set_option maxRecDepth 20000 in
theorem law_9 {nm : String} {G : zG} (C : zCx (M_law nm) zPF G) {b L : Nat} {xs : Nat → Int32} (S : zScr b L xs G) (E : zExs G) {T : zTt} {FR : zFR} {AR : zAR} {FI : zFI} {AI : zAI} {B D : Nat} {i : Int} {w5 w6 : Option zVal} {k n : Nat} (h : lR T FR AR FI AI B D) (i0 : 0 ≤ i) (i6 : i + 6 ≤ L) (iL : L ≤ 3072) (hk : k + 29 ≤ 601024) (hn : n + 979 ≤ 7293034) (kk : ∀ (w5 w6 : Option zVal) (T : zTt) (FR : zFR) (AR : zAR) (FI : zFI) (AI : zAI) (B D : Nat), lR T FR AR FI AI B D → zV G 966 [some (zA 99), some (zR 0), some (zR 100), some (zR 90), some (zI i), w5, w6] [] T FR AR FI AI (k + 29) (n + 979)) : zV G 507 [some (zA 99), some (zR 0), some (zR 100), some (zR 90), some (zI i), w5, w6] [] T FR AR FI AI k n := by
  obtain ⟨⟨gBD, hd, hc, hB, hD, hL, h90, hs, hsl⟩, ⟨t1, t2, t3, t4⟩, ⟨r1, r2, r3, r4, r5, r6, r7, r8, r9⟩⟩ := id h
  have hW := r1.1
  have gB : 14 ≤ B := by omega
  have b0 := mG_b r1
  refine zv_aload_n C dL_law_507 rfl rfl ?_
  refine zv_aload_n C dL_law_508 rfl rfl ?_
  refine zv_iload C dL_law_509 rfl ?_
  refine zv_iconst C dL_law_511 rfl ?_
  refine zv_iadd C dL_law_512 ⟨by omega, by omega⟩ ?_
  refine zv_sld C S dL_law_513 ⟨by omega, by omega⟩ ?_
  refine zv_aload_n C dL_law_514 rfl rfl ?_
  refine zv_iload C dL_law_515 rfl ?_
  refine zv_iconst C dL_law_517 rfl ?_
  refine zv_iadd C dL_law_518 ⟨by omega, by omega⟩ ?_
  refine zv_sld C S dL_law_519 ⟨by omega, by omega⟩ ?_
  refine zv_cVi0_2 C dL_law_520 k_X8_balance l_L_67 hd.1 rfl ⟨(by first | exact Nat.le_of_ble_eq_true rfl | (show _ ≤ (601024 : Nat); omega) | (show _ ≤ (7293034 : Nat); omega)), (by first | exact Nat.le_of_ble_eq_true rfl | (show _ ≤ (601024 : Nat); omega) | (show _ ≤ (7293034 : Nat); omega))⟩ ⟨rfl, rfl⟩ ⟨(by first | exact Nat.le_of_ble_eq_true rfl | (show _ ≤ (601024 : Nat); omega) | (show _ ≤ (7293034 : Nat); omega)), (by first | exact Nat.le_of_ble_eq_true rfl | (show _ ≤ (601024 : Nat); omega) | (show _ ≤ (7293034 : Nat); omega))⟩ rfl rfl ?_
  refine s_X8_balance hd hc hB r2 hW gB (fun F1 A1 cf => ?_)
  have e111 : A1 111 = AI 111 := cf.1 111 (by omega)
  have hW1 : mW (A1 111) (AI 111 3).toNat (AI 111 4).toNat := by rw [e111]; exact hW
  refine zv_aload_n C dL_law_523 rfl rfl ?_
  refine zv_aload_n C dL_law_524 rfl rfl ?_
  refine zv_iload C dL_law_525 rfl ?_
  refine zv_iconst C dL_law_527 rfl ?_
  refine zv_iadd C dL_law_528 ⟨by omega, by omega⟩ ?_
  refine zv_sld C S dL_law_529 ⟨by omega, by omega⟩ ?_
  refine zv_aload_n C dL_law_530 rfl rfl ?_
  refine zv_iload C dL_law_531 rfl ?_
  refine zv_iconst C dL_law_533 rfl ?_
  refine zv_iadd C dL_law_534 ⟨by omega, by omega⟩ ?_
  refine zv_sld C S dL_law_535 ⟨by omega, by omega⟩ ?_
  refine zv_cVi0_2 C dL_law_536 k_X9_balance l_L_70 hL.1 rfl ⟨(by first | exact Nat.le_of_ble_eq_true rfl | (show _ ≤ (601024 : Nat); omega) | (show _ ≤ (7293034 : Nat); omega)), (by first | exact Nat.le_of_ble_eq_true rfl | (show _ ≤ (601024 : Nat); omega) | (show _ ≤ (7293034 : Nat); omega))⟩ ⟨rfl, rfl⟩ ⟨(by first | exact Nat.le_of_ble_eq_true rfl | (show _ ≤ (601024 : Nat); omega) | (show _ ≤ (7293034 : Nat); omega)), (by first | exact Nat.le_of_ble_eq_true rfl | (show _ ≤ (601024 : Nat); omega) | (show _ ≤ (7293034 : Nat); omega))⟩ rfl rfl ?_
  refine s_X9_balance hL hW1 (fun A2 z2 => ?_)
  rw [e111]
  refine zv_icmp_eq C 966 dL_law_539 rfl (fun h539 => ?_) (fun h539 => absurd h539 (by exact fun z => z (by first | rfl | omega)))
  exact zv_widen (by omega) (by omega) (kk _ _ _ _ _ _ _ _ _ (lR_fr h (fun o j p1 p2 => by rw [zsF_ne (by omega)]; exact cf.2 o j (Or.inl p1)) (fun a p1 p2 p3 p4 => by rw [z2 a (by omega)]; exact cf.1 a p1)))
set_option maxRecDepth 20000 in
theorem law_11 {nm : String} {G : zG} (C : zCx (M_law nm) zPF G) {b L : Nat} {xs : Nat → Int32} (S : zScr b L xs G) (E : zExs G) {T : zTt} {FR : zFR} {AR : zAR} {FI : zFI} {AI : zAI} {B D : Nat} {i : Int} {w5 w6 : Option zVal} {k n : Nat} (h : lR T FR AR FI AI B D) (i0 : 0 ≤ i) (i6 : i + 6 ≤ L) (iL : L ≤ 3072) (hk : k + 29 ≤ 601024) (hn : n + 979 ≤ 7293034) (kk : ∀ (w5 w6 : Option zVal) (T : zTt) (FR : zFR) (AR : zAR) (FI : zFI) (AI : zAI) (B D : Nat), lR T FR AR FI AI B D → zV G 966 [some (zA 99), some (zR 0), some (zR 100), some (zR 90), some (zI i), w5, w6] [] T FR AR FI AI (k + 29) (n + 979)) : zV G 593 [some (zA 99), some (zR 0), some (zR 100), some (zR 90), some (zI i), w5, w6] [] T FR AR FI AI k n := by
  obtain ⟨⟨gBD, hd, hc, hB, hD, hL, h90, hs, hsl⟩, ⟨t1, t2, t3, t4⟩, ⟨r1, r2, r3, r4, r5, r6, r7, r8, r9⟩⟩ := id h
  have hW := r1.1
  have gB : 14 ≤ B := by omega
  have b0 := mG_b r1
  refine zv_aload_n C dL_law_593 rfl rfl ?_
  refine zv_aload_n C dL_law_594 rfl rfl ?_
  refine zv_iload C dL_law_595 rfl ?_
  refine zv_iconst C dL_law_597 rfl ?_
  refine zv_iadd C dL_law_598 ⟨by omega, by omega⟩ ?_
  refine zv_sld C S dL_law_599 ⟨by omega, by omega⟩ ?_
  refine zv_aload_n C dL_law_600 rfl rfl ?_
  refine zv_iload C dL_law_601 rfl ?_
  refine zv_iconst C dL_law_603 rfl ?_
  refine zv_iadd C dL_law_604 ⟨by omega, by omega⟩ ?_
  refine zv_sld C S dL_law_605 ⟨by omega, by omega⟩ ?_
  refine zv_aload_n C dL_law_606 rfl rfl ?_
  refine zv_iload C dL_law_607 rfl ?_
  refine zv_iconst C dL_law_609 rfl ?_
  refine zv_iadd C dL_law_610 ⟨by omega, by omega⟩ ?_
  refine zv_sld C S dL_law_611 ⟨by omega, by omega⟩ ?_
  refine zv_cVi0_3 C dL_law_612 k_X8_would l_L_75 hd.1 rfl ⟨(by first | exact Nat.le_of_ble_eq_true rfl | (show _ ≤ (601024 : Nat); omega) | (show _ ≤ (7293034 : Nat); omega)), (by first | exact Nat.le_of_ble_eq_true rfl | (show _ ≤ (601024 : Nat); omega) | (show _ ≤ (7293034 : Nat); omega))⟩ ⟨rfl, rfl⟩ ⟨(by first | exact Nat.le_of_ble_eq_true rfl | (show _ ≤ (601024 : Nat); omega) | (show _ ≤ (7293034 : Nat); omega)), (by first | exact Nat.le_of_ble_eq_true rfl | (show _ ≤ (601024 : Nat); omega) | (show _ ≤ (7293034 : Nat); omega))⟩ rfl rfl ?_
  refine s_X8_would hd hc hB r2 hW gB (fun F1 A1 cf => ?_)
  have e111 : A1 111 = AI 111 := cf.1 111 (by omega)
  have hW1 : mW (A1 111) (AI 111 3).toNat (AI 111 4).toNat := by rw [e111]; exact hW
  refine zv_aload_n C dL_law_615 rfl rfl ?_
  refine zv_aload_n C dL_law_616 rfl rfl ?_
  refine zv_iload C dL_law_617 rfl ?_
  refine zv_iconst C dL_law_619 rfl ?_
  refine zv_iadd C dL_law_620 ⟨by omega, by omega⟩ ?_
  refine zv_sld C S dL_law_621 ⟨by omega, by omega⟩ ?_
  refine zv_aload_n C dL_law_622 rfl rfl ?_
  refine zv_iload C dL_law_623 rfl ?_
  refine zv_iconst C dL_law_625 rfl ?_
  refine zv_iadd C dL_law_626 ⟨by omega, by omega⟩ ?_
  refine zv_sld C S dL_law_627 ⟨by omega, by omega⟩ ?_
  refine zv_aload_n C dL_law_628 rfl rfl ?_
  refine zv_iload C dL_law_629 rfl ?_
  refine zv_iconst C dL_law_631 rfl ?_
  refine zv_iadd C dL_law_632 ⟨by omega, by omega⟩ ?_
  refine zv_sld C S dL_law_633 ⟨by omega, by omega⟩ ?_
  refine zv_cVi0_3 C dL_law_634 k_X9_would l_L_78 hL.1 rfl ⟨(by first | exact Nat.le_of_ble_eq_true rfl | (show _ ≤ (601024 : Nat); omega) | (show _ ≤ (7293034 : Nat); omega)), (by first | exact Nat.le_of_ble_eq_true rfl | (show _ ≤ (601024 : Nat); omega) | (show _ ≤ (7293034 : Nat); omega))⟩ ⟨rfl, rfl⟩ ⟨(by first | exact Nat.le_of_ble_eq_true rfl | (show _ ≤ (601024 : Nat); omega) | (show _ ≤ (7293034 : Nat); omega)), (by first | exact Nat.le_of_ble_eq_true rfl | (show _ ≤ (601024 : Nat); omega) | (show _ ≤ (7293034 : Nat); omega))⟩ rfl rfl ?_
  refine s_X9_would hL hW1 (fun A2 z2 => ?_)
  rw [e111]
  refine zv_icmp_eq C 966 dL_law_637 rfl (fun h637 => ?_) (fun h637 => absurd h637 (by exact fun z => z (by first | rfl | omega)))
  exact zv_widen (by omega) (by omega) (kk _ _ _ _ _ _ _ _ _ (lR_fr h (fun o j p1 p2 => by rw [zsF_ne (by omega)]; exact cf.2 o j (Or.inl p1)) (fun a p1 p2 p3 p4 => by rw [z2 a (by omega)]; exact cf.1 a p1)))
set_option maxRecDepth 20000 in
theorem law_10 {nm : String} {G : zG} (C : zCx (M_law nm) zPF G) {b L : Nat} {xs : Nat → Int32} (S : zScr b L xs G) (E : zExs G) {T : zTt} {FR : zFR} {AR : zAR} {FI : zFI} {AI : zAI} {B D : Nat} {i : Int} {w5 w6 : Option zVal} {k n : Nat} (h : lR T FR AR FI AI B D) (i0 : 0 ≤ i) (i6 : i + 6 ≤ L) (iL : L ≤ 3072) (hk : k + 29 ≤ 601024) (hn : n + 979 ≤ 7293034) (kk : ∀ (w5 w6 : Option zVal) (T : zTt) (FR : zFR) (AR : zAR) (FI : zFI) (AI : zAI) (B D : Nat), lR T FR AR FI AI B D → zV G 966 [some (zA 99), some (zR 0), some (zR 100), some (zR 90), some (zI i), w5, w6] [] T FR AR FI AI (k + 29) (n + 979)) : zV G 544 [some (zA 99), some (zR 0), some (zR 100), some (zR 90), some (zI i), w5, w6] [] T FR AR FI AI k n := by
  obtain ⟨⟨gBD, hd, hc, hB, hD, hL, h90, hs, hsl⟩, ⟨t1, t2, t3, t4⟩, ⟨r1, r2, r3, r4, r5, r6, r7, r8, r9⟩⟩ := id h
  have hW := r1.1
  have gB : 14 ≤ B := by omega
  have b0 := mG_b r1
  refine zv_aload_n C dL_law_544 rfl rfl ?_
  refine zv_aload_n C dL_law_545 rfl rfl ?_
  refine zv_iload C dL_law_546 rfl ?_
  refine zv_iconst C dL_law_548 rfl ?_
  refine zv_iadd C dL_law_549 ⟨by omega, by omega⟩ ?_
  refine zv_sld C S dL_law_550 ⟨by omega, by omega⟩ ?_
  refine zv_aload_n C dL_law_551 rfl rfl ?_
  refine zv_iload C dL_law_552 rfl ?_
  refine zv_iconst C dL_law_554 rfl ?_
  refine zv_iadd C dL_law_555 ⟨by omega, by omega⟩ ?_
  refine zv_sld C S dL_law_556 ⟨by omega, by omega⟩ ?_
  refine zv_aload_n C dL_law_557 rfl rfl ?_
  refine zv_iload C dL_law_558 rfl ?_
  refine zv_iconst C dL_law_560 rfl ?_
  refine zv_iadd C dL_law_561 ⟨by omega, by omega⟩ ?_
  refine zv_sld C S dL_law_562 ⟨by omega, by omega⟩ ?_
  refine zv_cVi0_3 C dL_law_563 k_X8_closing l_L_71 hd.1 rfl ⟨(by first | exact Nat.le_of_ble_eq_true rfl | (show _ ≤ (601024 : Nat); omega) | (show _ ≤ (7293034 : Nat); omega)), (by first | exact Nat.le_of_ble_eq_true rfl | (show _ ≤ (601024 : Nat); omega) | (show _ ≤ (7293034 : Nat); omega))⟩ ⟨rfl, rfl⟩ ⟨(by first | exact Nat.le_of_ble_eq_true rfl | (show _ ≤ (601024 : Nat); omega) | (show _ ≤ (7293034 : Nat); omega)), (by first | exact Nat.le_of_ble_eq_true rfl | (show _ ≤ (601024 : Nat); omega) | (show _ ≤ (7293034 : Nat); omega))⟩ rfl rfl ?_
  refine s_X8_closing hd hB r2 hW (fun o y p1 p2 p3 p4 => ?_) ?_
  · have q := r3 y.toNat o.toNat (by omega) (by omega)
    have ey : ((y.toNat : Nat) : Int) = y := by omega
    have eo : ((o.toNat : Nat) : Int) = o := by omega
    rw [ey, eo] at q
    exact ⟨_, q.1, kS_lay (hs y.toNat o.toNat (by omega) (by omega)) (by rw [ey, eo]; exact q.1), q.2.1⟩
  refine zv_aload_n C dL_law_566 rfl rfl ?_
  refine zv_aload_n C dL_law_567 rfl rfl ?_
  refine zv_iload C dL_law_568 rfl ?_
  refine zv_iconst C dL_law_570 rfl ?_
  refine zv_iadd C dL_law_571 ⟨by omega, by omega⟩ ?_
  refine zv_sld C S dL_law_572 ⟨by omega, by omega⟩ ?_
  refine zv_aload_n C dL_law_573 rfl rfl ?_
  refine zv_iload C dL_law_574 rfl ?_
  refine zv_iconst C dL_law_576 rfl ?_
  refine zv_iadd C dL_law_577 ⟨by omega, by omega⟩ ?_
  refine zv_sld C S dL_law_578 ⟨by omega, by omega⟩ ?_
  refine zv_aload_n C dL_law_579 rfl rfl ?_
  refine zv_iload C dL_law_580 rfl ?_
  refine zv_iconst C dL_law_582 rfl ?_
  refine zv_iadd C dL_law_583 ⟨by omega, by omega⟩ ?_
  refine zv_sld C S dL_law_584 ⟨by omega, by omega⟩ ?_
  refine zv_cVi0_3 C dL_law_585 k_X9_closing l_L_74 hL.1 rfl ⟨(by first | exact Nat.le_of_ble_eq_true rfl | (show _ ≤ (601024 : Nat); omega) | (show _ ≤ (7293034 : Nat); omega)), (by first | exact Nat.le_of_ble_eq_true rfl | (show _ ≤ (601024 : Nat); omega) | (show _ ≤ (7293034 : Nat); omega))⟩ ⟨rfl, rfl⟩ ⟨(by first | exact Nat.le_of_ble_eq_true rfl | (show _ ≤ (601024 : Nat); omega) | (show _ ≤ (7293034 : Nat); omega)), (by first | exact Nat.le_of_ble_eq_true rfl | (show _ ≤ (601024 : Nat); omega) | (show _ ≤ (7293034 : Nat); omega))⟩ rfl rfl ?_
  refine s_X9_closing hL hW r1.2.1 ?_
  refine zv_icmp_eq C 966 dL_law_588 rfl (fun h588 => ?_) (fun h588 => absurd h588 (by exact fun z => z (by first | rfl | omega)))
  exact zv_widen (by omega) (by omega) (kk _ _ _ _ _ _ _ _ _ (lR_fr h (fun o j p1 p2 => zsF_ne (by omega)) (fun _ _ _ _ _ => rfl)))
theorem enough_up {N : Int → Int} {nI nL : Nat} (hW : mW N nI nL) {o y r r' : Int} (g0 : 0 ≤ o) (g1 : o < 3) (h0 : 0 ≤ r) (h1 : r ≤ r') (h2 : r' ≤ 99999) (h : enough N nI nL o y r) : enough N nI nL o y r' := by
  by_cases e : r = r'
  · rw [← e]; exact h
  · exact enough_mono hW g0 g1 h0 (by omega) (by omega) h
