set_option maxRecDepth 20000 in
theorem go_312 {T : zTt} {FR : zFR} {AR : zAR} {FI : zFI} {AI : zAI} {Post : zPost} {G : zG} {n p q lt gd : Int} {R : Nat} {a4 : Option zVal} {F : zFI} (C : zCx M_X9_go Post G) (hL : mLay T FR) (hQ : tQ (AI 101) n p q R) (hn2 : n ≤ 640) (hq0 : 0 ≤ q) (hkn : q + R ≤ n) (hlt : (lt = 1 ∧ 97 ≤ AI 101 q ∧ AI 101 q ≤ 122) ∨ (lt = 0 ∧ 48 ≤ AI 101 q ∧ AI 101 q ≤ 57)) (hw : tW FI F (AI 101) n q lt gd R) (hp : ∀ FI1 : zFI, zFf FI FI1 → tAt FI1 (AI 101) n p → Post (zI 0) T FR AR FI1 AI) : zV G 312 [some (zR 100), some (zI (AI 101 q)), some (zI lt), some (zI gd), a4] [] T FR AR F AI 0 0 := by
  obtain ⟨hF2, e3, e4, e5, h10, h7, hg, hl1, hl0⟩ := hw
  obtain ⟨k0, k1, k2, kr, kv, k3, k4, k5, k6, k7⟩ := hQ
  refine zv_aload_n C dX9_go_312 rfl rfl ?_
  refine zv_iload_n C dX9_go_313 rfl ?_
  refine zv_if_eq C 334 dX9_go_314 rfl (fun h314 => ?_) (fun h314 => ?_)
  · refine zv_iconst C dX9_go_334 rfl ?_
    refine zv_goto C 347 dX9_go_335 rfl ?_
    refine zv_putI C dX9_go_347 f_X9_27 hL.1 rfl ?_
    refine zv_return C dX9_go_350 rfl rfl rfl ?_
    refine hp _ (hF2.set (by decide)) ?_
    unfold tAt
    rw [k1, k2, kv, kr]
    have eS : ∀ v w : Int, tK (AI 101) n p = w → v = mso w → v = mso (tK (AI 101) n p) := fun v w a c => by rw [a]; exact c
    simp (disch := omega) only [zsF_eq, zsF_ne]
    refine ⟨e3, e5, ?_, fun _ => by omega, fun z => ?_, fun z => ?_, by omega, by omega⟩
    · first
      | exact eS 2 2 (k3 (by omega)) rfl
      | exact eS 3 3 (k4 (by omega) (by omega)) rfl
      | exact eS 1 0 (k5 (by omega) (by omega)) rfl
      | (exfalso; omega)
    · rcases (show R ≤ 5 ∨ 5 < R by omega) with g | g
      · rw [h7, show min R 5 = R by omega]
      · have e : tK (AI 101) n p ≠ 3 := by
          by_cases c0 : zdg (AI 101) q R = 0
          · rw [k3 c0]; omega
          · rw [k5 c0 (Or.inr g)]; omega
        exact absurd z e
    · exact h10
  · refine zv_iload_n C dX9_go_317 rfl ?_
    refine zv_if_ne C 338 dX9_go_318 rfl (fun h318 => ?_) (fun h318 => ?_)
    · refine zv_iload_n C dX9_go_338 rfl ?_
      refine zv_if_eq C 346 dX9_go_339 rfl (fun h339 => ?_) (fun h339 => ?_)
      · refine zv_iconst C dX9_go_346 rfl ?_
        refine zv_putI C dX9_go_347 f_X9_27 hL.1 rfl ?_
        refine zv_return C dX9_go_350 rfl rfl rfl ?_
        refine hp _ (hF2.set (by decide)) ?_
        unfold tAt
        rw [k1, k2, kv, kr]
        have eS : ∀ v w : Int, tK (AI 101) n p = w → v = mso w → v = mso (tK (AI 101) n p) := fun v w a c => by rw [a]; exact c
        simp (disch := omega) only [zsF_eq, zsF_ne]
        refine ⟨e3, e5, ?_, fun _ => by omega, fun z => ?_, fun z => ?_, by omega, by omega⟩
        · first
          | exact eS 2 2 (k3 (by omega)) rfl
          | exact eS 3 3 (k4 (by omega) (by omega)) rfl
          | exact eS 1 0 (k5 (by omega) (by omega)) rfl
          | (exfalso; omega)
        · rcases (show R ≤ 5 ∨ 5 < R by omega) with g | g
          · rw [h7, show min R 5 = R by omega]
          · have e : tK (AI 101) n p ≠ 3 := by
              by_cases c0 : zdg (AI 101) q R = 0
              · rw [k3 c0]; omega
              · rw [k5 c0 (Or.inr g)]; omega
            exact absurd z e
        · exact h10
      · refine zv_iconst C dX9_go_342 rfl ?_
        refine zv_goto C 347 dX9_go_343 rfl ?_
        refine zv_putI C dX9_go_347 f_X9_27 hL.1 rfl ?_
        refine zv_return C dX9_go_350 rfl rfl rfl ?_
        refine hp _ (hF2.set (by decide)) ?_
        unfold tAt
        rw [k1, k2, kv, kr]
        have eS : ∀ v w : Int, tK (AI 101) n p = w → v = mso w → v = mso (tK (AI 101) n p) := fun v w a c => by rw [a]; exact c
        simp (disch := omega) only [zsF_eq, zsF_ne]
        refine ⟨e3, e5, ?_, fun _ => by omega, fun z => ?_, fun z => ?_, by omega, by omega⟩
        · first
          | exact eS 2 2 (k3 (by omega)) rfl
          | exact eS 3 3 (k4 (by omega) (by omega)) rfl
          | exact eS 1 0 (k5 (by omega) (by omega)) rfl
          | (exfalso; omega)
        · rcases (show R ≤ 5 ∨ 5 < R by omega) with g | g
          · rw [h7, show min R 5 = R by omega]
          · have e : tK (AI 101) n p ≠ 3 := by
              by_cases c0 : zdg (AI 101) q R = 0
              · rw [k3 c0]; omega
              · rw [k5 c0 (Or.inr g)]; omega
            exact absurd z e
        · exact h10
    · refine zv_aload_n C dX9_go_321 rfl rfl ?_
      refine zv_getI C dX9_go_322 f_X9_21 hL.1 rfl ?_
      try simp (disch := omega) only [zsF_eq, zsF_ne]
      refine zv_aload_n C dX9_go_325 rfl rfl ?_
      refine zv_getI C dX9_go_326 f_X9_24 hL.1 rfl ?_
      try simp (disch := omega) only [zsF_eq, zsF_ne]
      refine zv_isub C dX9_go_329 ⟨by omega, by omega⟩ ?_
      refine zv_iconst C dX9_go_330 rfl ?_
      refine zv_icmp_le C 338 dX9_go_331 rfl (fun h331 => ?_) (fun h331 => ?_)
      · refine zv_iload_n C dX9_go_338 rfl ?_
        refine zv_if_eq C 346 dX9_go_339 rfl (fun h339 => ?_) (fun h339 => ?_)
        · refine zv_iconst C dX9_go_346 rfl ?_
          refine zv_putI C dX9_go_347 f_X9_27 hL.1 rfl ?_
          refine zv_return C dX9_go_350 rfl rfl rfl ?_
          refine hp _ (hF2.set (by decide)) ?_
          unfold tAt
          rw [k1, k2, kv, kr]
          have eS : ∀ v w : Int, tK (AI 101) n p = w → v = mso w → v = mso (tK (AI 101) n p) := fun v w a c => by rw [a]; exact c
          simp (disch := omega) only [zsF_eq, zsF_ne]
          refine ⟨e3, e5, ?_, fun _ => by omega, fun z => ?_, fun z => ?_, by omega, by omega⟩
          · first
            | exact eS 2 2 (k3 (by omega)) rfl
            | exact eS 3 3 (k4 (by omega) (by omega)) rfl
            | exact eS 1 0 (k5 (by omega) (by omega)) rfl
            | (exfalso; omega)
          · rcases (show R ≤ 5 ∨ 5 < R by omega) with g | g
            · rw [h7, show min R 5 = R by omega]
            · have e : tK (AI 101) n p ≠ 3 := by
                by_cases c0 : zdg (AI 101) q R = 0
                · rw [k3 c0]; omega
                · rw [k5 c0 (Or.inr g)]; omega
              exact absurd z e
          · exact h10
        · refine zv_iconst C dX9_go_342 rfl ?_
          refine zv_goto C 347 dX9_go_343 rfl ?_
          refine zv_putI C dX9_go_347 f_X9_27 hL.1 rfl ?_
          refine zv_return C dX9_go_350 rfl rfl rfl ?_
          refine hp _ (hF2.set (by decide)) ?_
          unfold tAt
          rw [k1, k2, kv, kr]
          have eS : ∀ v w : Int, tK (AI 101) n p = w → v = mso w → v = mso (tK (AI 101) n p) := fun v w a c => by rw [a]; exact c
          simp (disch := omega) only [zsF_eq, zsF_ne]
          refine ⟨e3, e5, ?_, fun _ => by omega, fun z => ?_, fun z => ?_, by omega, by omega⟩
          · first
            | exact eS 2 2 (k3 (by omega)) rfl
            | exact eS 3 3 (k4 (by omega) (by omega)) rfl
            | exact eS 1 0 (k5 (by omega) (by omega)) rfl
            | (exfalso; omega)
          · rcases (show R ≤ 5 ∨ 5 < R by omega) with g | g
            · rw [h7, show min R 5 = R by omega]
            · have e : tK (AI 101) n p ≠ 3 := by
                by_cases c0 : zdg (AI 101) q R = 0
                · rw [k3 c0]; omega
                · rw [k5 c0 (Or.inr g)]; omega
              exact absurd z e
          · exact h10
      · refine zv_iconst C dX9_go_334 rfl ?_
        refine zv_goto C 347 dX9_go_335 rfl ?_
        refine zv_putI C dX9_go_347 f_X9_27 hL.1 rfl ?_
        refine zv_return C dX9_go_350 rfl rfl rfl ?_
        refine hp _ (hF2.set (by decide)) ?_
        unfold tAt
        rw [k1, k2, kv, kr]
        have eS : ∀ v w : Int, tK (AI 101) n p = w → v = mso w → v = mso (tK (AI 101) n p) := fun v w a c => by rw [a]; exact c
        simp (disch := omega) only [zsF_eq, zsF_ne]
        refine ⟨e3, e5, ?_, fun _ => by omega, fun z => ?_, fun z => ?_, by omega, by omega⟩
        · first
          | exact eS 2 2 (k3 (by omega)) rfl
          | exact eS 3 3 (k4 (by omega) (by omega)) rfl
          | exact eS 1 0 (k5 (by omega) (by omega)) rfl
          | (exfalso; omega)
        · rcases (show R ≤ 5 ∨ 5 < R by omega) with g | g
          · rw [h7, show min R 5 = R by omega]
          · have e : tK (AI 101) n p ≠ 3 := by
              by_cases c0 : zdg (AI 101) q R = 0
              · rw [k3 c0]; omega
              · rw [k5 c0 (Or.inr g)]; omega
            exact absurd z e
        · exact h10
set_option maxRecDepth 20000 in
theorem go_235 {T : zTt} {FR : zFR} {AR : zAR} {FI : zFI} {AI : zAI} {Post : zPost} {G : zG} {n p q lt gd : Int} {R k : Nat} {F : zFI} (C : zCx M_X9_go Post G) (hL : mLay T FR) (hb : ∀ i : Int, 0 ≤ AI 101 i ∧ AI 101 i ≤ 255) (hE : tE (AI 101) n (q + k) = q + R) (hr : q + k < n) (al : ((97 ≤ AI 101 (q + k) ∧ AI 101 (q + k) ≤ 122) ∨ (48 ≤ AI 101 (q + k) ∧ AI 101 (q + k) ≤ 57))) (gd' : Int) (hn2 : n ≤ 640) (hq0 : 0 ≤ q) (hw : tW FI F (AI 101) n q lt gd k) (hg' : gd' = 1 ∨ gd' = 0) (hl1' : lt = 1 → (gd' = 1 ↔ zdg (AI 101) q (k + 1) = 0)) (hl0' : lt = 0 → (gd' = 1 ↔ zdg (AI 101) q (k + 1) = ((k + 1 : Nat) : Int))) (hn : ∀ (F1 : zFI) (k1 : Nat) (gd1 : Int) (a : Option zVal), (k1 : Int) = k + 1 → tE (AI 101) n (q + k1) = q + R → tW FI F1 (AI 101) n q lt gd1 k1 → zV G 177 [some (zR 100), some (zI (AI 101 q)), some (zI lt), some (zI gd1), a] [] T FR AR F1 AI 0 0) : zV G 235 [some (zR 100), some (zI (AI 101 q)), some (zI lt), some (zI gd'), some (zI (AI 101 (q + k)))] [] T FR AR F AI 0 0 := by
  obtain ⟨hF2, e3, e4, e5, h10, h7, hg, hl1, hl0⟩ := hw
  have b10 := zwd_c (b := AI 101) (q := q) hb (k := min k 11) (by omega)
  have b7 := zvl_c (b := AI 101) (q := q) hb (k := min k 5) (by omega)
  rw [← h10] at b10
  rw [← h7] at b7
  have bk := hb (q + k)
  have hE2 : tE (AI 101) n (q + ((k + 1 : Nat) : Int)) = q + R := by
    rw [← hE, tE_step hr al]
    congr 1
    omega
  refine zv_aload_n C dX9_go_235 rfl rfl ?_
  refine zv_getI C dX9_go_236 f_X9_21 hL.1 rfl ?_
  refine zv_aload_n C dX9_go_239 rfl rfl ?_
  refine zv_getI C dX9_go_240 f_X9_24 hL.1 rfl ?_
  refine zv_isub C dX9_go_243 ⟨by omega, by omega⟩ ?_
  refine zv_bipush C dX9_go_244 rfl ?_
  refine zv_icmp_ge C 269 dX9_go_246 rfl (fun h246 => ?_) (fun h246 => ?_)
  · refine zv_aload_n C dX9_go_269 rfl rfl ?_
    refine zv_getI C dX9_go_270 f_X9_21 hL.1 rfl ?_
    refine zv_aload_n C dX9_go_273 rfl rfl ?_
    refine zv_getI C dX9_go_274 f_X9_24 hL.1 rfl ?_
    refine zv_isub C dX9_go_277 ⟨by omega, by omega⟩ ?_
    refine zv_iconst C dX9_go_278 rfl ?_
    refine zv_icmp_ge C 299 dX9_go_279 rfl (fun h279 => ?_) (fun h279 => ?_)
    · refine zv_aload_n C dX9_go_299 rfl rfl ?_
      refine zv_dup C dX9_go_300 rfl ?_
      refine zv_getI C dX9_go_301 f_X9_21 hL.1 rfl ?_
      refine zv_iconst C dX9_go_304 rfl ?_
      refine zv_iadd C dX9_go_305 ⟨by omega, by omega⟩ ?_
      refine zv_putI C dX9_go_306 f_X9_21 hL.1 rfl ?_
      refine zv_goto C 177 dX9_go_309 rfl ?_
      refine hn _ (k + 1) gd' _ (by omega) hE2 ⟨?_, ?_, ?_, ?_, ?_, ?_, hg', hl1', hl0'⟩
      · first | exact (((hF2.set (by decide)).set (by decide)).set (by decide)) | exact ((hF2.set (by decide)).set (by decide)) | exact (hF2.set (by decide))
      · simp (disch := omega) only [zsF_eq, zsF_ne]; exact e3
      · simp (disch := omega) only [zsF_eq, zsF_ne]; omega
      · simp (disch := omega) only [zsF_eq, zsF_ne]; exact e5
      · simp (disch := omega) only [zsF_eq, zsF_ne]
        first
        | (exfalso; omega)
        | (rw [show min (k + 1) 11 = min k 11 by omega]; exact h10)
        | (rw [show min (k + 1) 11 = k + 1 by omega, h10, show min k 11 = k by omega]; rfl)
      · simp (disch := omega) only [zsF_eq, zsF_ne]
        first
        | (exfalso; omega)
        | (rw [show min (k + 1) 5 = min k 5 by omega]; exact h7)
        | (rw [show min (k + 1) 5 = k + 1 by omega, h7, show min k 5 = k by omega]; rfl)
    · refine zv_aload_n C dX9_go_282 rfl rfl ?_
      refine zv_bipush C dX9_go_283 rfl ?_
      refine zv_aload_n C dX9_go_285 rfl rfl ?_
      refine zv_getI C dX9_go_286 f_X9_41 hL.1 rfl ?_
      try simp (disch := omega) only [zsF_eq, zsF_ne]
      refine zv_imul C dX9_go_289 ⟨by omega, by omega⟩ ?_
      refine zv_iload C dX9_go_290 rfl ?_
      refine zv_iadd C dX9_go_292 ⟨by omega, by omega⟩ ?_
      refine zv_bipush C dX9_go_293 rfl ?_
      refine zv_isub C dX9_go_295 ⟨by omega, by omega⟩ ?_
      refine zv_putI C dX9_go_296 f_X9_41 hL.1 rfl ?_
      refine zv_aload_n C dX9_go_299 rfl rfl ?_
      refine zv_dup C dX9_go_300 rfl ?_
      refine zv_getI C dX9_go_301 f_X9_21 hL.1 rfl ?_
      try simp (disch := omega) only [zsF_eq, zsF_ne]
      refine zv_iconst C dX9_go_304 rfl ?_
      refine zv_iadd C dX9_go_305 ⟨by omega, by omega⟩ ?_
      refine zv_putI C dX9_go_306 f_X9_21 hL.1 rfl ?_
      refine zv_goto C 177 dX9_go_309 rfl ?_
      refine hn _ (k + 1) gd' _ (by omega) hE2 ⟨?_, ?_, ?_, ?_, ?_, ?_, hg', hl1', hl0'⟩
      · first | exact (((hF2.set (by decide)).set (by decide)).set (by decide)) | exact ((hF2.set (by decide)).set (by decide)) | exact (hF2.set (by decide))
      · simp (disch := omega) only [zsF_eq, zsF_ne]; exact e3
      · simp (disch := omega) only [zsF_eq, zsF_ne]; omega
      · simp (disch := omega) only [zsF_eq, zsF_ne]; exact e5
      · simp (disch := omega) only [zsF_eq, zsF_ne]
        first
        | (exfalso; omega)
        | (rw [show min (k + 1) 11 = min k 11 by omega]; exact h10)
        | (rw [show min (k + 1) 11 = k + 1 by omega, h10, show min k 11 = k by omega]; rfl)
      · simp (disch := omega) only [zsF_eq, zsF_ne]
        first
        | (exfalso; omega)
        | (rw [show min (k + 1) 5 = min k 5 by omega]; exact h7)
        | (rw [show min (k + 1) 5 = k + 1 by omega, h7, show min k 5 = k by omega]; rfl)
  · refine zv_aload_n C dX9_go_249 rfl rfl ?_
    refine zv_ldc2 (x := 27) C dX9_go_250 c_X9_48 rfl ?_
    refine zv_aload_n C dX9_go_253 rfl rfl ?_
    refine zv_getL C dX9_go_254 f_X9_37 hL.1 rfl ?_
    refine zv_lmul C dX9_go_257 ⟨by omega, by omega⟩ ?_
    refine zv_iload C dX9_go_258 rfl ?_
    refine zv_i2l C dX9_go_260 ?_
    refine zv_ladd C dX9_go_261 ⟨by omega, by omega⟩ ?_
    refine zv_ldc2 (x := 96) C dX9_go_262 c_X9_50 rfl ?_
    refine zv_lsub C dX9_go_265 ⟨by omega, by omega⟩ ?_
    refine zv_putL C dX9_go_266 f_X9_37 hL.1 rfl ?_
    refine zv_aload_n C dX9_go_269 rfl rfl ?_
    refine zv_getI C dX9_go_270 f_X9_21 hL.1 rfl ?_
    try simp (disch := omega) only [zsF_eq, zsF_ne]
    refine zv_aload_n C dX9_go_273 rfl rfl ?_
    refine zv_getI C dX9_go_274 f_X9_24 hL.1 rfl ?_
    try simp (disch := omega) only [zsF_eq, zsF_ne]
    refine zv_isub C dX9_go_277 ⟨by omega, by omega⟩ ?_
    refine zv_iconst C dX9_go_278 rfl ?_
    refine zv_icmp_ge C 299 dX9_go_279 rfl (fun h279 => ?_) (fun h279 => ?_)
    · refine zv_aload_n C dX9_go_299 rfl rfl ?_
      refine zv_dup C dX9_go_300 rfl ?_
      refine zv_getI C dX9_go_301 f_X9_21 hL.1 rfl ?_
      try simp (disch := omega) only [zsF_eq, zsF_ne]
      refine zv_iconst C dX9_go_304 rfl ?_
      refine zv_iadd C dX9_go_305 ⟨by omega, by omega⟩ ?_
      refine zv_putI C dX9_go_306 f_X9_21 hL.1 rfl ?_
      refine zv_goto C 177 dX9_go_309 rfl ?_
      refine hn _ (k + 1) gd' _ (by omega) hE2 ⟨?_, ?_, ?_, ?_, ?_, ?_, hg', hl1', hl0'⟩
      · first | exact (((hF2.set (by decide)).set (by decide)).set (by decide)) | exact ((hF2.set (by decide)).set (by decide)) | exact (hF2.set (by decide))
      · simp (disch := omega) only [zsF_eq, zsF_ne]; exact e3
      · simp (disch := omega) only [zsF_eq, zsF_ne]; omega
      · simp (disch := omega) only [zsF_eq, zsF_ne]; exact e5
      · simp (disch := omega) only [zsF_eq, zsF_ne]
        first
        | (exfalso; omega)
        | (rw [show min (k + 1) 11 = min k 11 by omega]; exact h10)
        | (rw [show min (k + 1) 11 = k + 1 by omega, h10, show min k 11 = k by omega]; rfl)
      · simp (disch := omega) only [zsF_eq, zsF_ne]
        first
        | (exfalso; omega)
        | (rw [show min (k + 1) 5 = min k 5 by omega]; exact h7)
        | (rw [show min (k + 1) 5 = k + 1 by omega, h7, show min k 5 = k by omega]; rfl)
    · refine zv_aload_n C dX9_go_282 rfl rfl ?_
      refine zv_bipush C dX9_go_283 rfl ?_
      refine zv_aload_n C dX9_go_285 rfl rfl ?_
      refine zv_getI C dX9_go_286 f_X9_41 hL.1 rfl ?_
      try simp (disch := omega) only [zsF_eq, zsF_ne]
      refine zv_imul C dX9_go_289 ⟨by omega, by omega⟩ ?_
      refine zv_iload C dX9_go_290 rfl ?_
      refine zv_iadd C dX9_go_292 ⟨by omega, by omega⟩ ?_
      refine zv_bipush C dX9_go_293 rfl ?_
      refine zv_isub C dX9_go_295 ⟨by omega, by omega⟩ ?_
      refine zv_putI C dX9_go_296 f_X9_41 hL.1 rfl ?_
      refine zv_aload_n C dX9_go_299 rfl rfl ?_
      refine zv_dup C dX9_go_300 rfl ?_
      refine zv_getI C dX9_go_301 f_X9_21 hL.1 rfl ?_
      try simp (disch := omega) only [zsF_eq, zsF_ne]
      refine zv_iconst C dX9_go_304 rfl ?_
      refine zv_iadd C dX9_go_305 ⟨by omega, by omega⟩ ?_
      refine zv_putI C dX9_go_306 f_X9_21 hL.1 rfl ?_
      refine zv_goto C 177 dX9_go_309 rfl ?_
      refine hn _ (k + 1) gd' _ (by omega) hE2 ⟨?_, ?_, ?_, ?_, ?_, ?_, hg', hl1', hl0'⟩
      · first | exact (((hF2.set (by decide)).set (by decide)).set (by decide)) | exact ((hF2.set (by decide)).set (by decide)) | exact (hF2.set (by decide))
      · simp (disch := omega) only [zsF_eq, zsF_ne]; exact e3
      · simp (disch := omega) only [zsF_eq, zsF_ne]; omega
      · simp (disch := omega) only [zsF_eq, zsF_ne]; exact e5
      · simp (disch := omega) only [zsF_eq, zsF_ne]
        first
        | (exfalso; omega)
        | (rw [show min (k + 1) 11 = min k 11 by omega]; exact h10)
        | (rw [show min (k + 1) 11 = k + 1 by omega, h10, show min k 11 = k by omega]; rfl)
      · simp (disch := omega) only [zsF_eq, zsF_ne]
        first
        | (exfalso; omega)
        | (rw [show min (k + 1) 5 = min k 5 by omega]; exact h7)
        | (rw [show min (k + 1) 5 = k + 1 by omega, h7, show min k 5 = k by omega]; rfl)
set_option maxRecDepth 20000 in
theorem go_205 {T : zTt} {FR : zFR} {AR : zAR} {FI : zFI} {AI : zAI} {Post : zPost} {G : zG} {n p q lt gd : Int} {R k : Nat} {a4 : Option zVal} {F : zFI} (C : zCx M_X9_go Post G) (hL : mLay T FR) (hb : ∀ i : Int, 0 ≤ AI 101 i ∧ AI 101 i ≤ 255) (hE : tE (AI 101) n (q + k) = q + R) (hr : q + k < n) (al : ((97 ≤ AI 101 (q + k) ∧ AI 101 (q + k) ≤ 122) ∨ (48 ≤ AI 101 (q + k) ∧ AI 101 (q + k) ≤ 57))) (hn2 : n ≤ 640) (hq0 : 0 ≤ q) (hlt : (lt = 1 ∧ 97 ≤ AI 101 q ∧ AI 101 q ≤ 122) ∨ (lt = 0 ∧ 48 ≤ AI 101 q ∧ AI 101 q ≤ 57)) (hw : tW FI F (AI 101) n q lt gd k) (hn : ∀ (F1 : zFI) (k1 : Nat) (gd1 : Int) (a : Option zVal), (k1 : Int) = k + 1 → tE (AI 101) n (q + k1) = q + R → tW FI F1 (AI 101) n q lt gd1 k1 → zV G 177 [some (zR 100), some (zI (AI 101 q)), some (zI lt), some (zI gd1), a] [] T FR AR F1 AI 0 0) : zV G 205 [some (zR 100), some (zI (AI 101 q)), some (zI lt), some (zI gd), a4] [] T FR AR F AI 0 0 := by
  have hw2 := hw
  obtain ⟨hF2, e3, e4, e5, h10, h7, hg, hl1, hl0⟩ := hw
  have db := zdg_b (b := AI 101) (q := q) k
  refine zv_aload_n C dX9_go_205 rfl rfl ?_
  refine zv_getR C dX9_go_206 f_X9_7 hL.1 rfl hL.2.2.2.2.2.2.2.2.2.2.2.2.2.2.1 ?_
  refine zv_aload_n C dX9_go_209 rfl rfl ?_
  refine zv_getI C dX9_go_210 f_X9_21 hL.1 rfl ?_
  refine zv_iaload C dX9_go_213 hL.2.1 ⟨by omega, by omega⟩ ?_
  rw [e4]
  refine zv_istore_4 C dX9_go_214 rfl rfl ?_
  refine zv_iload_n C dX9_go_216 rfl ?_
  refine zv_if_eq C 233 dX9_go_217 rfl (fun h217 => ?_) (fun h217 => ?_)
  · refine zv_iconst C dX9_go_233 rfl ?_
    refine zv_istore_3 C dX9_go_234 rfl rfl ?_
    refine go_235 (p := p) C hL hb hE hr al _ hn2 hq0 hw2 (by omega) (fun z => ?_) (fun z => ?_) hn
    · by_cases cd : 48 ≤ AI 101 (q + k) ∧ AI 101 (q + k) ≤ 57
      · rw [zdg_d cd]; omega
      · rw [zdg_l cd]; omega
    · by_cases cd : 48 ≤ AI 101 (q + k) ∧ AI 101 (q + k) ≤ 57
      · rw [zdg_d cd]; omega
      · rw [zdg_l cd]; omega
  · refine zv_iload C dX9_go_220 rfl ?_
    refine zv_cSi0_1 C dX9_go_222 k_X9_isLetter l_X9_30 ⟨Nat.le_of_ble_eq_true rfl, Nat.le_of_ble_eq_true rfl⟩ ⟨rfl, rfl⟩ ⟨Nat.le_of_ble_eq_true rfl, Nat.le_of_ble_eq_true rfl⟩ rfl rfl ?_
    refine s_X9_isLetter (fun b222 => ?_) (fun b222 => ?_)
    · refine zv_iload_n C dX9_go_225 rfl ?_
      refine zv_icmp_ne C 233 dX9_go_226 rfl (fun h226 => ?_) (fun h226 => ?_)
      · refine zv_iconst C dX9_go_233 rfl ?_
        refine zv_istore_3 C dX9_go_234 rfl rfl ?_
        refine go_235 (p := p) C hL hb hE hr al _ hn2 hq0 hw2 (by omega) (fun z => ?_) (fun z => ?_) hn
        · by_cases cd : 48 ≤ AI 101 (q + k) ∧ AI 101 (q + k) ≤ 57
          · rw [zdg_d cd]; omega
          · rw [zdg_l cd]; omega
        · by_cases cd : 48 ≤ AI 101 (q + k) ∧ AI 101 (q + k) ≤ 57
          · rw [zdg_d cd]; omega
          · rw [zdg_l cd]; omega
      · refine zv_iconst C dX9_go_229 rfl ?_
        refine zv_goto C 234 dX9_go_230 rfl ?_
        refine zv_istore_3 C dX9_go_234 rfl rfl ?_
        refine go_235 (p := p) C hL hb hE hr al _ hn2 hq0 hw2 (by omega) (fun z => ?_) (fun z => ?_) hn
        · by_cases cd : 48 ≤ AI 101 (q + k) ∧ AI 101 (q + k) ≤ 57
          · rw [zdg_d cd]; omega
          · rw [zdg_l cd]; omega
        · by_cases cd : 48 ≤ AI 101 (q + k) ∧ AI 101 (q + k) ≤ 57
          · rw [zdg_d cd]; omega
          · rw [zdg_l cd]; omega
    · refine zv_iload_n C dX9_go_225 rfl ?_
      refine zv_icmp_ne C 233 dX9_go_226 rfl (fun h226 => ?_) (fun h226 => ?_)
      · refine zv_iconst C dX9_go_233 rfl ?_
        refine zv_istore_3 C dX9_go_234 rfl rfl ?_
        refine go_235 (p := p) C hL hb hE hr al _ hn2 hq0 hw2 (by omega) (fun z => ?_) (fun z => ?_) hn
        · by_cases cd : 48 ≤ AI 101 (q + k) ∧ AI 101 (q + k) ≤ 57
          · rw [zdg_d cd]; omega
          · rw [zdg_l cd]; omega
        · by_cases cd : 48 ≤ AI 101 (q + k) ∧ AI 101 (q + k) ≤ 57
          · rw [zdg_d cd]; omega
          · rw [zdg_l cd]; omega
      · refine zv_iconst C dX9_go_229 rfl ?_
        refine zv_goto C 234 dX9_go_230 rfl ?_
        refine zv_istore_3 C dX9_go_234 rfl rfl ?_
        refine go_235 (p := p) C hL hb hE hr al _ hn2 hq0 hw2 (by omega) (fun z => ?_) (fun z => ?_) hn
        · by_cases cd : 48 ≤ AI 101 (q + k) ∧ AI 101 (q + k) ≤ 57
          · rw [zdg_d cd]; omega
          · rw [zdg_l cd]; omega
        · by_cases cd : 48 ≤ AI 101 (q + k) ∧ AI 101 (q + k) ≤ 57
          · rw [zdg_d cd]; omega
          · rw [zdg_l cd]; omega
set_option maxRecDepth 20000 in
theorem go_177 {T : zTt} {FR : zFR} {AR : zAR} {FI : zFI} {AI : zAI} {Post : zPost} {G : zG} {n p q lt gd : Int} {R : Nat} (C : zCx M_X9_go Post G) (hL : mLay T FR) (hb : ∀ i : Int, 0 ≤ AI 101 i ∧ AI 101 i ≤ 255) (hQ : tQ (AI 101) n p q R) (hn2 : n ≤ 640) (hq0 : 0 ≤ q) (hlt : (lt = 1 ∧ 97 ≤ AI 101 q ∧ AI 101 q ≤ 122) ∨ (lt = 0 ∧ 48 ≤ AI 101 q ∧ AI 101 q ≤ 57)) (hp : ∀ FI1 : zFI, zFf FI FI1 → tAt FI1 (AI 101) n p → Post (zI 0) T FR AR FI1 AI) : ∀ (d k : Nat) (gd : Int) (a4 : Option zVal) (F : zFI), (n - (q + k)).toNat ≤ d → q + k ≤ n → tE (AI 101) n (q + k) = q + R → tW FI F (AI 101) n q lt gd k → zV G 177 [some (zR 100), some (zI (AI 101 q)), some (zI lt), some (zI gd), a4] [] T FR AR F AI 0 0 := by
  intro d
  induction d with
  | zero =>
    intro k gd a4 F hd hkn hE hw
    have hw2 := hw
    obtain ⟨hF2, e3, e4, e5, h10, h7, hg, hl1, hl0⟩ := hw
    have eK : R = k := by rw [tE_stop (by omega)] at hE; omega
    subst eK
    refine zv_aload_n C dX9_go_177 rfl rfl ?_
    refine zv_aload_n C dX9_go_178 rfl rfl ?_
    refine zv_getI C dX9_go_179 f_X9_21 hL.1 rfl ?_
    refine zv_cVi0_1 C dX9_go_182 k_X9_tapeAt l_X9_44 hL.1 rfl ⟨Nat.le_of_ble_eq_true rfl, Nat.le_of_ble_eq_true rfl⟩ ⟨rfl, rfl⟩ ⟨Nat.le_of_ble_eq_true rfl, Nat.le_of_ble_eq_true rfl⟩ rfl rfl ?_
    refine s_X9_tapeAt hL (by omega) (by omega) ?_
    rw [if_neg (by omega)]
    refine zv_cSi0_1 C dX9_go_185 k_X9_isLetter l_X9_30 ⟨Nat.le_of_ble_eq_true rfl, Nat.le_of_ble_eq_true rfl⟩ ⟨rfl, rfl⟩ ⟨Nat.le_of_ble_eq_true rfl, Nat.le_of_ble_eq_true rfl⟩ rfl rfl ?_
    refine s_X9_isLetter (fun b185 => absurd b185 (by omega)) (fun b185 => ?_)
    refine zv_if_ne C 205 dX9_go_188 rfl (fun h => absurd h (by omega)) (fun _ => ?_)
    refine zv_aload_n C dX9_go_191 rfl rfl ?_
    refine zv_aload_n C dX9_go_192 rfl rfl ?_
    refine zv_getI C dX9_go_193 f_X9_21 hL.1 rfl ?_
    refine zv_cVi0_1 C dX9_go_196 k_X9_tapeAt l_X9_44 hL.1 rfl ⟨Nat.le_of_ble_eq_true rfl, Nat.le_of_ble_eq_true rfl⟩ ⟨rfl, rfl⟩ ⟨Nat.le_of_ble_eq_true rfl, Nat.le_of_ble_eq_true rfl⟩ rfl rfl ?_
    refine s_X9_tapeAt hL (by omega) (by omega) ?_
    rw [if_neg (by omega)]
    refine zv_cSi0_1 C dX9_go_199 k_X9_isDigit l_X9_34 ⟨Nat.le_of_ble_eq_true rfl, Nat.le_of_ble_eq_true rfl⟩ ⟨rfl, rfl⟩ ⟨Nat.le_of_ble_eq_true rfl, Nat.le_of_ble_eq_true rfl⟩ rfl rfl ?_
    refine s_X9_isDigit (fun b199 => absurd b199 (by omega)) (fun b199 => ?_)
    refine zv_if_eq C 312 dX9_go_202 rfl (fun _ => ?_) (fun h => absurd h (by omega))
    exact go_312 C hL hQ hn2 hq0 hkn hlt hw2 hp
  | succ d ih =>
    intro k gd a4 F hd hkn hE hw
    have hw2 := hw
    obtain ⟨hF2, e3, e4, e5, h10, h7, hg, hl1, hl0⟩ := hw
    by_cases hr : q + k < n
    · have nx : ((97 ≤ AI 101 (q + k) ∧ AI 101 (q + k) ≤ 122) ∨ (48 ≤ AI 101 (q + k) ∧ AI 101 (q + k) ≤ 57)) → zV G 205 [some (zR 100), some (zI (AI 101 q)), some (zI lt), some (zI gd), a4] [] T FR AR F AI 0 0 := fun al => go_205 (p := p) C hL hb hE hr al hn2 hq0 hlt hw2 (fun F1 k1 gd1 a h1 h2 h3 => ih k1 gd1 a F1 (by omega) (by omega) h2 h3)
      refine zv_aload_n C dX9_go_177 rfl rfl ?_
      refine zv_aload_n C dX9_go_178 rfl rfl ?_
      refine zv_getI C dX9_go_179 f_X9_21 hL.1 rfl ?_
      refine zv_cVi0_1 C dX9_go_182 k_X9_tapeAt l_X9_44 hL.1 rfl ⟨Nat.le_of_ble_eq_true rfl, Nat.le_of_ble_eq_true rfl⟩ ⟨rfl, rfl⟩ ⟨Nat.le_of_ble_eq_true rfl, Nat.le_of_ble_eq_true rfl⟩ rfl rfl ?_
      refine s_X9_tapeAt hL (by omega) (by omega) ?_
      rw [if_pos (by omega), e4]
      refine zv_cSi0_1 C dX9_go_185 k_X9_isLetter l_X9_30 ⟨Nat.le_of_ble_eq_true rfl, Nat.le_of_ble_eq_true rfl⟩ ⟨rfl, rfl⟩ ⟨Nat.le_of_ble_eq_true rfl, Nat.le_of_ble_eq_true rfl⟩ rfl rfl ?_
      refine s_X9_isLetter (fun b185 => ?_) (fun b185 => ?_)
      · refine zv_if_ne C 205 dX9_go_188 rfl (fun _ => ?_) (fun h => absurd h (by omega))
        exact nx (by omega)
      · refine zv_if_ne C 205 dX9_go_188 rfl (fun h => absurd h (by omega)) (fun _ => ?_)
        refine zv_aload_n C dX9_go_191 rfl rfl ?_
        refine zv_aload_n C dX9_go_192 rfl rfl ?_
        refine zv_getI C dX9_go_193 f_X9_21 hL.1 rfl ?_
        refine zv_cVi0_1 C dX9_go_196 k_X9_tapeAt l_X9_44 hL.1 rfl ⟨Nat.le_of_ble_eq_true rfl, Nat.le_of_ble_eq_true rfl⟩ ⟨rfl, rfl⟩ ⟨Nat.le_of_ble_eq_true rfl, Nat.le_of_ble_eq_true rfl⟩ rfl rfl ?_
        refine s_X9_tapeAt hL (by omega) (by omega) ?_
        rw [if_pos (by omega), e4]
        refine zv_cSi0_1 C dX9_go_199 k_X9_isDigit l_X9_34 ⟨Nat.le_of_ble_eq_true rfl, Nat.le_of_ble_eq_true rfl⟩ ⟨rfl, rfl⟩ ⟨Nat.le_of_ble_eq_true rfl, Nat.le_of_ble_eq_true rfl⟩ rfl rfl ?_
        refine s_X9_isDigit (fun b199 => ?_) (fun b199 => ?_)
        · refine zv_if_eq C 312 dX9_go_202 rfl (fun h => absurd h (by omega)) (fun _ => ?_)
          exact nx (by omega)
        · refine zv_if_eq C 312 dX9_go_202 rfl (fun _ => ?_) (fun h => absurd h (by omega))
          have eK : R = k := by rw [tE_stop (by omega)] at hE; omega
          subst eK
          exact go_312 C hL hQ hn2 hq0 hkn hlt hw2 hp
    · have eK : R = k := by rw [tE_stop (by omega)] at hE; omega
      subst eK
      refine zv_aload_n C dX9_go_177 rfl rfl ?_
      refine zv_aload_n C dX9_go_178 rfl rfl ?_
      refine zv_getI C dX9_go_179 f_X9_21 hL.1 rfl ?_
      refine zv_cVi0_1 C dX9_go_182 k_X9_tapeAt l_X9_44 hL.1 rfl ⟨Nat.le_of_ble_eq_true rfl, Nat.le_of_ble_eq_true rfl⟩ ⟨rfl, rfl⟩ ⟨Nat.le_of_ble_eq_true rfl, Nat.le_of_ble_eq_true rfl⟩ rfl rfl ?_
      refine s_X9_tapeAt hL (by omega) (by omega) ?_
      rw [if_neg (by omega)]
      refine zv_cSi0_1 C dX9_go_185 k_X9_isLetter l_X9_30 ⟨Nat.le_of_ble_eq_true rfl, Nat.le_of_ble_eq_true rfl⟩ ⟨rfl, rfl⟩ ⟨Nat.le_of_ble_eq_true rfl, Nat.le_of_ble_eq_true rfl⟩ rfl rfl ?_
      refine s_X9_isLetter (fun b185 => absurd b185 (by omega)) (fun b185 => ?_)
      refine zv_if_ne C 205 dX9_go_188 rfl (fun h => absurd h (by omega)) (fun _ => ?_)
      refine zv_aload_n C dX9_go_191 rfl rfl ?_
      refine zv_aload_n C dX9_go_192 rfl rfl ?_
      refine zv_getI C dX9_go_193 f_X9_21 hL.1 rfl ?_
      refine zv_cVi0_1 C dX9_go_196 k_X9_tapeAt l_X9_44 hL.1 rfl ⟨Nat.le_of_ble_eq_true rfl, Nat.le_of_ble_eq_true rfl⟩ ⟨rfl, rfl⟩ ⟨Nat.le_of_ble_eq_true rfl, Nat.le_of_ble_eq_true rfl⟩ rfl rfl ?_
      refine s_X9_tapeAt hL (by omega) (by omega) ?_
      rw [if_neg (by omega)]
      refine zv_cSi0_1 C dX9_go_199 k_X9_isDigit l_X9_34 ⟨Nat.le_of_ble_eq_true rfl, Nat.le_of_ble_eq_true rfl⟩ ⟨rfl, rfl⟩ ⟨Nat.le_of_ble_eq_true rfl, Nat.le_of_ble_eq_true rfl⟩ rfl rfl ?_
      refine s_X9_isDigit (fun b199 => absurd b199 (by omega)) (fun b199 => ?_)
      refine zv_if_eq C 312 dX9_go_202 rfl (fun _ => ?_) (fun h => absurd h (by omega))
      exact go_312 C hL hQ hn2 hq0 hkn hlt hw2 hp
set_option maxRecDepth 20000 in
theorem s_X9_go {T : zTt} {FR : zFR} {AR : zAR} {FI : zFI} {AI : zAI} {Post : zPost} {n : Int} (hL : mLay T FR) (hn : FI 100 3 = n) (hn2 : n ≤ 640) (g0 : 0 ≤ FI 100 4) (g1 : FI 100 4 ≤ 640) (hb : ∀ i : Int, 0 ≤ AI 101 i ∧ AI 101 i ≤ 255) (hp : ∀ FI1 : zFI, zFf FI FI1 → tAt FI1 (AI 101) n (FI 100 4) → Post (zI 0) T FR AR FI1 AI) : zMet M_X9_go [zR 100] T FR AR FI AI Post := by
  refine zMet.of [some (zR 100), none, none, none, none] rfl rfl rfl (fun G C => ?_)
  have hq0 := tF_b (b := AI 101) (n := n) (n - FI 100 4).toNat (FI 100 4)
  generalize hq : tF (AI 101) n (FI 100 4) = q at *
  have hq1 : FI 100 4 ≤ q ∧ q ≤ max (FI 100 4) n := by rw [← hq]; exact hq0
  suffices J52 : ∀ FI1 : zFI, zFf FI FI1 → FI1 100 3 = n → FI1 100 4 = q → zV G 52 [some (zR 100), none, none, none, none] [] T FR AR FI1 AI 0 0 from by
    suffices lp : ∀ (d : Nat) (FI1 : zFI), (n - FI1 100 4).toNat ≤ d → zFf FI FI1 → FI1 100 3 = n → FI 100 4 ≤ FI1 100 4 → FI1 100 4 ≤ 640 → tF (AI 101) n (FI1 100 4) = q → zV G 0 [some (zR 100), none, none, none, none] [] T FR AR FI1 AI 0 0 from by
      exact lp (n - FI 100 4).toNat FI (by omega) zFf.rfl hn (by omega) (by omega) hq
    intro d
    induction d with
    | zero =>
      intro FI1 hd hF h3 h4 h5 ht
      rw [tF_stop (by omega)] at ht
      refine zv_aload_n C dX9_go_0 rfl rfl ?_
      refine zv_getI C dX9_go_1 f_X9_21 hL.1 rfl ?_
      refine zv_aload_n C dX9_go_4 rfl rfl ?_
      refine zv_getI C dX9_go_5 f_X9_18 hL.1 rfl ?_
      refine zv_icmp_ge C 52 dX9_go_8 rfl (fun h8 => ?_) (fun h8 => absurd h8 (by omega))
      exact J52 FI1 hF h3 ht
    | succ d ih =>
      intro FI1 hd hF h3 h4 h5 ht
      refine zv_aload_n C dX9_go_0 rfl rfl ?_
      refine zv_getI C dX9_go_1 f_X9_21 hL.1 rfl ?_
      refine zv_aload_n C dX9_go_4 rfl rfl ?_
      refine zv_getI C dX9_go_5 f_X9_18 hL.1 rfl ?_
      refine zv_icmp_ge C 52 dX9_go_8 rfl (fun h8 => ?_) (fun h8 => ?_)
      · rw [tF_stop (by omega)] at ht
        exact J52 FI1 hF h3 ht
      · refine zv_aload_n C dX9_go_11 rfl rfl ?_
        refine zv_getR C dX9_go_12 f_X9_7 hL.1 rfl hL.2.2.2.2.2.2.2.2.2.2.2.2.2.2.1 ?_
        refine zv_aload_n C dX9_go_15 rfl rfl ?_
        refine zv_getI C dX9_go_16 f_X9_21 hL.1 rfl ?_
        refine zv_iaload C dX9_go_19 hL.2.1 ⟨by omega, by omega⟩ ?_
        refine zv_bipush C dX9_go_20 rfl ?_
        refine zv_icmp_eq C 39 dX9_go_22 rfl (fun h22 => ?_) (fun h22 => ?_)
        · refine zv_aload_n C dX9_go_39 rfl rfl ?_
          refine zv_dup C dX9_go_40 rfl ?_
          refine zv_getI C dX9_go_41 f_X9_21 hL.1 rfl ?_
          refine zv_iconst C dX9_go_44 rfl ?_
          refine zv_iadd C dX9_go_45 ⟨by omega, by omega⟩ ?_
          refine zv_putI C dX9_go_46 f_X9_21 hL.1 rfl ?_
          refine zv_goto C 0 dX9_go_49 rfl ?_
          rw [tF_step (by omega) (by omega)] at ht
          refine ih _ ?_ (hF.set (by decide)) ?_ ?_ ?_ ?_
          · rw [zsF_eq]; omega
          · rw [zsF_ne (by decide)]; exact h3
          · rw [zsF_eq]; omega
          · rw [zsF_eq]; omega
          · rw [zsF_eq]; exact ht
        · refine zv_aload_n C dX9_go_25 rfl rfl ?_
          refine zv_getR C dX9_go_26 f_X9_7 hL.1 rfl hL.2.2.2.2.2.2.2.2.2.2.2.2.2.2.1 ?_
          refine zv_aload_n C dX9_go_29 rfl rfl ?_
          refine zv_getI C dX9_go_30 f_X9_21 hL.1 rfl ?_
          try simp (disch := omega) only [zsF_eq, zsF_ne]
          refine zv_iaload C dX9_go_33 hL.2.1 ⟨by omega, by omega⟩ ?_
          refine zv_bipush C dX9_go_34 rfl ?_
          refine zv_icmp_ne C 52 dX9_go_36 rfl (fun h36 => ?_) (fun h36 => ?_)
          · rw [tF_stop (by omega)] at ht
            exact J52 FI1 hF h3 ht
          · refine zv_aload_n C dX9_go_39 rfl rfl ?_
            refine zv_dup C dX9_go_40 rfl ?_
            refine zv_getI C dX9_go_41 f_X9_21 hL.1 rfl ?_
            try simp (disch := omega) only [zsF_eq, zsF_ne]
            refine zv_iconst C dX9_go_44 rfl ?_
            refine zv_iadd C dX9_go_45 ⟨by omega, by omega⟩ ?_
            refine zv_putI C dX9_go_46 f_X9_21 hL.1 rfl ?_
            refine zv_goto C 0 dX9_go_49 rfl ?_
            rw [tF_step (by omega) (by omega)] at ht
            refine ih _ ?_ (hF.set (by decide)) ?_ ?_ ?_ ?_
            · rw [zsF_eq]; omega
            · rw [zsF_ne (by decide)]; exact h3
            · rw [zsF_eq]; omega
            · rw [zsF_eq]; omega
            · rw [zsF_eq]; exact ht
  intro FI1 hF h3 h4
  suffices J160 : ¬ (600 < n ∧ 600 ≤ q) → q < n → ((97 ≤ AI 101 q ∧ AI 101 q ≤ 122) ∨ (48 ≤ AI 101 q ∧ AI 101 q ≤ 57)) → zV G 160 [some (zR 100), some (zI (AI 101 q)), none, none, none] [] T FR AR (zsF FI1 100 5 q) AI 0 0 from by
    refine zv_aload_n C dX9_go_52 rfl rfl ?_
    refine zv_aload_n C dX9_go_53 rfl rfl ?_
    refine zv_getI C dX9_go_54 f_X9_21 hL.1 rfl ?_
    rw [h4]
    refine zv_putI C dX9_go_57 f_X9_24 hL.1 rfl ?_
    refine zv_aload_n C dX9_go_60 rfl rfl ?_
    refine zv_getI C dX9_go_61 f_X9_18 hL.1 rfl ?_
    try simp (disch := omega) only [zsF_eq, zsF_ne]
    refine zv_sipush C dX9_go_64 rfl ?_
    refine zv_icmp_le C 93 dX9_go_67 rfl (fun h67 => ?_) (fun h67 => ?_)
    · refine zv_aload_n C dX9_go_93 rfl rfl ?_
      refine zv_getI C dX9_go_94 f_X9_21 hL.1 rfl ?_
      try simp (disch := omega) only [zsF_eq, zsF_ne]
      refine zv_aload_n C dX9_go_97 rfl rfl ?_
      refine zv_getI C dX9_go_98 f_X9_18 hL.1 rfl ?_
      try simp (disch := omega) only [zsF_eq, zsF_ne]
      refine zv_icmp_lt C 110 dX9_go_101 rfl (fun h101 => ?_) (fun h101 => ?_)
      · refine zv_aload_n C dX9_go_110 rfl rfl ?_
        refine zv_getR C dX9_go_111 f_X9_7 hL.1 rfl hL.2.2.2.2.2.2.2.2.2.2.2.2.2.2.1 ?_
        refine zv_aload_n C dX9_go_114 rfl rfl ?_
        refine zv_getI C dX9_go_115 f_X9_21 hL.1 rfl ?_
        try simp (disch := omega) only [zsF_eq, zsF_ne]
        refine zv_iaload C dX9_go_118 hL.2.1 ⟨by omega, by omega⟩ ?_
        rw [h4]
        refine zv_istore_1 C dX9_go_119 rfl rfl ?_
        refine zv_iload_n C dX9_go_120 rfl ?_
        refine zv_cSi0_1 C dX9_go_121 k_X9_isLetter l_X9_30 ⟨Nat.le_of_ble_eq_true rfl, Nat.le_of_ble_eq_true rfl⟩ ⟨rfl, rfl⟩ ⟨Nat.le_of_ble_eq_true rfl, Nat.le_of_ble_eq_true rfl⟩ rfl rfl ?_
        refine s_X9_isLetter (fun b121 => ?_) (fun b121 => ?_)
        · refine zv_if_ne C 160 dX9_go_124 rfl (fun _ => ?_) (fun h => absurd h (by omega))
          exact J160 (by omega) (by omega) (by omega)
        · refine zv_if_ne C 160 dX9_go_124 rfl (fun h => absurd h (by omega)) (fun _ => ?_)
          refine zv_iload_n C dX9_go_127 rfl ?_
          refine zv_cSi0_1 C dX9_go_128 k_X9_isDigit l_X9_34 ⟨Nat.le_of_ble_eq_true rfl, Nat.le_of_ble_eq_true rfl⟩ ⟨rfl, rfl⟩ ⟨Nat.le_of_ble_eq_true rfl, Nat.le_of_ble_eq_true rfl⟩ rfl rfl ?_
          refine s_X9_isDigit (fun b128 => ?_) (fun b128 => ?_)
          · refine zv_if_ne C 160 dX9_go_131 rfl (fun _ => ?_) (fun h => absurd h (by omega))
            exact J160 (by omega) (by omega) (by omega)
          · refine zv_if_ne C 160 dX9_go_131 rfl (fun h => absurd h (by omega)) (fun _ => ?_)
            refine zv_aload_n C dX9_go_134 rfl rfl ?_
            refine zv_iload_n C dX9_go_135 rfl ?_
            refine zv_bipush C dX9_go_136 rfl ?_
            refine zv_icmp_ne C 145 dX9_go_138 rfl (fun h138 => ?_) (fun h138 => ?_)
            · refine zv_iconst C dX9_go_145 rfl ?_
              refine zv_putI C dX9_go_146 f_X9_27 hL.1 rfl ?_
              refine zv_aload_n C dX9_go_149 rfl rfl ?_
              refine zv_dup C dX9_go_150 rfl ?_
              refine zv_getI C dX9_go_151 f_X9_21 hL.1 rfl ?_
              try simp (disch := omega) only [zsF_eq, zsF_ne]
              refine zv_iconst C dX9_go_154 rfl ?_
              refine zv_iadd C dX9_go_155 ⟨by omega, by omega⟩ ?_
              refine zv_putI C dX9_go_156 f_X9_21 hL.1 rfl ?_
              refine zv_return C dX9_go_159 rfl rfl rfl ?_
              by_cases c59 : AI 101 q = 59
              · have k := tK_sign (b := AI 101) (n := n) (p := FI 100 4) (by omega) (by omega) (by rw [hq]; exact c59)
                refine hp _ (((hF.set (by decide)).set (by decide)).set (by decide)) ?_
                unfold tAt
                rw [k.1, k.2.1, k.2.2, hq]
                simp (disch := omega) only [zsF_eq, zsF_ne, mso]
                first | (exfalso; omega) | exact ⟨h3, (by first | rfl | trivial), (by first | rfl | trivial), fun _ => by omega, fun z => by omega, fun z => by omega, by omega, by omega⟩
              · have k := tK_non (b := AI 101) (n := n) (p := FI 100 4) (by omega) (by omega) (by rw [hq]; exact c59) (by rw [hq]; omega)
                refine hp _ (((hF.set (by decide)).set (by decide)).set (by decide)) ?_
                unfold tAt
                rw [k.1, k.2, hq]
                simp (disch := omega) only [zsF_eq, zsF_ne, mso]
                first | (exfalso; omega) | exact ⟨h3, (by first | rfl | trivial), (by first | rfl | trivial), fun z => by omega, fun z => by omega, fun z => by omega, by omega, by omega⟩
            · refine zv_iconst C dX9_go_141 rfl ?_
              refine zv_goto C 146 dX9_go_142 rfl ?_
              refine zv_putI C dX9_go_146 f_X9_27 hL.1 rfl ?_
              refine zv_aload_n C dX9_go_149 rfl rfl ?_
              refine zv_dup C dX9_go_150 rfl ?_
              refine zv_getI C dX9_go_151 f_X9_21 hL.1 rfl ?_
              try simp (disch := omega) only [zsF_eq, zsF_ne]
              refine zv_iconst C dX9_go_154 rfl ?_
              refine zv_iadd C dX9_go_155 ⟨by omega, by omega⟩ ?_
              refine zv_putI C dX9_go_156 f_X9_21 hL.1 rfl ?_
              refine zv_return C dX9_go_159 rfl rfl rfl ?_
              by_cases c59 : AI 101 q = 59
              · have k := tK_sign (b := AI 101) (n := n) (p := FI 100 4) (by omega) (by omega) (by rw [hq]; exact c59)
                refine hp _ (((hF.set (by decide)).set (by decide)).set (by decide)) ?_
                unfold tAt
                rw [k.1, k.2.1, k.2.2, hq]
                simp (disch := omega) only [zsF_eq, zsF_ne, mso]
                first | (exfalso; omega) | exact ⟨h3, (by first | rfl | trivial), (by first | rfl | trivial), fun _ => by omega, fun z => by omega, fun z => by omega, by omega, by omega⟩
              · have k := tK_non (b := AI 101) (n := n) (p := FI 100 4) (by omega) (by omega) (by rw [hq]; exact c59) (by rw [hq]; omega)
                refine hp _ (((hF.set (by decide)).set (by decide)).set (by decide)) ?_
                unfold tAt
                rw [k.1, k.2, hq]
                simp (disch := omega) only [zsF_eq, zsF_ne, mso]
                first | (exfalso; omega) | exact ⟨h3, (by first | rfl | trivial), (by first | rfl | trivial), fun z => by omega, fun z => by omega, fun z => by omega, by omega, by omega⟩
      · refine zv_aload_n C dX9_go_104 rfl rfl ?_
        refine zv_iconst C dX9_go_105 rfl ?_
        refine zv_putI C dX9_go_106 f_X9_27 hL.1 rfl ?_
        refine zv_return C dX9_go_109 rfl rfl rfl ?_
        have k := tK_end (b := AI 101) (n := n) (p := FI 100 4) (by omega) (by omega)
        refine hp _ ((hF.set (by decide)).set (by decide)) ?_
        unfold tAt
        rw [k.1, k.2, hq]
        simp (disch := omega) only [zsF_eq, zsF_ne, mso]
        exact ⟨h3, (by first | rfl | trivial), (by first | rfl | trivial), fun z => by omega, fun z => by omega, fun z => by omega, by omega, by omega⟩
    · refine zv_aload_n C dX9_go_70 rfl rfl ?_
      refine zv_getI C dX9_go_71 f_X9_24 hL.1 rfl ?_
      try simp (disch := omega) only [zsF_eq, zsF_ne]
      refine zv_sipush C dX9_go_74 rfl ?_
      refine zv_icmp_lt C 93 dX9_go_77 rfl (fun h77 => ?_) (fun h77 => ?_)
      · refine zv_aload_n C dX9_go_93 rfl rfl ?_
        refine zv_getI C dX9_go_94 f_X9_21 hL.1 rfl ?_
        try simp (disch := omega) only [zsF_eq, zsF_ne]
        refine zv_aload_n C dX9_go_97 rfl rfl ?_
        refine zv_getI C dX9_go_98 f_X9_18 hL.1 rfl ?_
        try simp (disch := omega) only [zsF_eq, zsF_ne]
        refine zv_icmp_lt C 110 dX9_go_101 rfl (fun h101 => ?_) (fun h101 => ?_)
        · refine zv_aload_n C dX9_go_110 rfl rfl ?_
          refine zv_getR C dX9_go_111 f_X9_7 hL.1 rfl hL.2.2.2.2.2.2.2.2.2.2.2.2.2.2.1 ?_
          refine zv_aload_n C dX9_go_114 rfl rfl ?_
          refine zv_getI C dX9_go_115 f_X9_21 hL.1 rfl ?_
          try simp (disch := omega) only [zsF_eq, zsF_ne]
          refine zv_iaload C dX9_go_118 hL.2.1 ⟨by omega, by omega⟩ ?_
          rw [h4]
          refine zv_istore_1 C dX9_go_119 rfl rfl ?_
          refine zv_iload_n C dX9_go_120 rfl ?_
          refine zv_cSi0_1 C dX9_go_121 k_X9_isLetter l_X9_30 ⟨Nat.le_of_ble_eq_true rfl, Nat.le_of_ble_eq_true rfl⟩ ⟨rfl, rfl⟩ ⟨Nat.le_of_ble_eq_true rfl, Nat.le_of_ble_eq_true rfl⟩ rfl rfl ?_
          refine s_X9_isLetter (fun b121 => ?_) (fun b121 => ?_)
          · refine zv_if_ne C 160 dX9_go_124 rfl (fun _ => ?_) (fun h => absurd h (by omega))
            exact J160 (by omega) (by omega) (by omega)
          · refine zv_if_ne C 160 dX9_go_124 rfl (fun h => absurd h (by omega)) (fun _ => ?_)
            refine zv_iload_n C dX9_go_127 rfl ?_
            refine zv_cSi0_1 C dX9_go_128 k_X9_isDigit l_X9_34 ⟨Nat.le_of_ble_eq_true rfl, Nat.le_of_ble_eq_true rfl⟩ ⟨rfl, rfl⟩ ⟨Nat.le_of_ble_eq_true rfl, Nat.le_of_ble_eq_true rfl⟩ rfl rfl ?_
            refine s_X9_isDigit (fun b128 => ?_) (fun b128 => ?_)
            · refine zv_if_ne C 160 dX9_go_131 rfl (fun _ => ?_) (fun h => absurd h (by omega))
              exact J160 (by omega) (by omega) (by omega)
            · refine zv_if_ne C 160 dX9_go_131 rfl (fun h => absurd h (by omega)) (fun _ => ?_)
              refine zv_aload_n C dX9_go_134 rfl rfl ?_
              refine zv_iload_n C dX9_go_135 rfl ?_
              refine zv_bipush C dX9_go_136 rfl ?_
              refine zv_icmp_ne C 145 dX9_go_138 rfl (fun h138 => ?_) (fun h138 => ?_)
              · refine zv_iconst C dX9_go_145 rfl ?_
                refine zv_putI C dX9_go_146 f_X9_27 hL.1 rfl ?_
                refine zv_aload_n C dX9_go_149 rfl rfl ?_
                refine zv_dup C dX9_go_150 rfl ?_
                refine zv_getI C dX9_go_151 f_X9_21 hL.1 rfl ?_
                try simp (disch := omega) only [zsF_eq, zsF_ne]
                refine zv_iconst C dX9_go_154 rfl ?_
                refine zv_iadd C dX9_go_155 ⟨by omega, by omega⟩ ?_
                refine zv_putI C dX9_go_156 f_X9_21 hL.1 rfl ?_
                refine zv_return C dX9_go_159 rfl rfl rfl ?_
                by_cases c59 : AI 101 q = 59
                · have k := tK_sign (b := AI 101) (n := n) (p := FI 100 4) (by omega) (by omega) (by rw [hq]; exact c59)
                  refine hp _ (((hF.set (by decide)).set (by decide)).set (by decide)) ?_
                  unfold tAt
                  rw [k.1, k.2.1, k.2.2, hq]
                  simp (disch := omega) only [zsF_eq, zsF_ne, mso]
                  first | (exfalso; omega) | exact ⟨h3, (by first | rfl | trivial), (by first | rfl | trivial), fun _ => by omega, fun z => by omega, fun z => by omega, by omega, by omega⟩
                · have k := tK_non (b := AI 101) (n := n) (p := FI 100 4) (by omega) (by omega) (by rw [hq]; exact c59) (by rw [hq]; omega)
                  refine hp _ (((hF.set (by decide)).set (by decide)).set (by decide)) ?_
                  unfold tAt
                  rw [k.1, k.2, hq]
                  simp (disch := omega) only [zsF_eq, zsF_ne, mso]
                  first | (exfalso; omega) | exact ⟨h3, (by first | rfl | trivial), (by first | rfl | trivial), fun z => by omega, fun z => by omega, fun z => by omega, by omega, by omega⟩
              · refine zv_iconst C dX9_go_141 rfl ?_
                refine zv_goto C 146 dX9_go_142 rfl ?_
                refine zv_putI C dX9_go_146 f_X9_27 hL.1 rfl ?_
                refine zv_aload_n C dX9_go_149 rfl rfl ?_
                refine zv_dup C dX9_go_150 rfl ?_
                refine zv_getI C dX9_go_151 f_X9_21 hL.1 rfl ?_
                try simp (disch := omega) only [zsF_eq, zsF_ne]
                refine zv_iconst C dX9_go_154 rfl ?_
                refine zv_iadd C dX9_go_155 ⟨by omega, by omega⟩ ?_
                refine zv_putI C dX9_go_156 f_X9_21 hL.1 rfl ?_
                refine zv_return C dX9_go_159 rfl rfl rfl ?_
                by_cases c59 : AI 101 q = 59
                · have k := tK_sign (b := AI 101) (n := n) (p := FI 100 4) (by omega) (by omega) (by rw [hq]; exact c59)
                  refine hp _ (((hF.set (by decide)).set (by decide)).set (by decide)) ?_
                  unfold tAt
                  rw [k.1, k.2.1, k.2.2, hq]
                  simp (disch := omega) only [zsF_eq, zsF_ne, mso]
                  first | (exfalso; omega) | exact ⟨h3, (by first | rfl | trivial), (by first | rfl | trivial), fun _ => by omega, fun z => by omega, fun z => by omega, by omega, by omega⟩
                · have k := tK_non (b := AI 101) (n := n) (p := FI 100 4) (by omega) (by omega) (by rw [hq]; exact c59) (by rw [hq]; omega)
                  refine hp _ (((hF.set (by decide)).set (by decide)).set (by decide)) ?_
                  unfold tAt
                  rw [k.1, k.2, hq]
                  simp (disch := omega) only [zsF_eq, zsF_ne, mso]
                  first | (exfalso; omega) | exact ⟨h3, (by first | rfl | trivial), (by first | rfl | trivial), fun z => by omega, fun z => by omega, fun z => by omega, by omega, by omega⟩
        · refine zv_aload_n C dX9_go_104 rfl rfl ?_
          refine zv_iconst C dX9_go_105 rfl ?_
          refine zv_putI C dX9_go_106 f_X9_27 hL.1 rfl ?_
          refine zv_return C dX9_go_109 rfl rfl rfl ?_
          have k := tK_end (b := AI 101) (n := n) (p := FI 100 4) (by omega) (by omega)
          refine hp _ ((hF.set (by decide)).set (by decide)) ?_
          unfold tAt
          rw [k.1, k.2, hq]
          simp (disch := omega) only [zsF_eq, zsF_ne, mso]
          exact ⟨h3, (by first | rfl | trivial), (by first | rfl | trivial), fun z => by omega, fun z => by omega, fun z => by omega, by omega, by omega⟩
      · refine zv_aload_n C dX9_go_80 rfl rfl ?_
        refine zv_sipush C dX9_go_81 rfl ?_
        refine zv_putI C dX9_go_84 f_X9_24 hL.1 rfl ?_
        refine zv_aload_n C dX9_go_87 rfl rfl ?_
        refine zv_iconst C dX9_go_88 rfl ?_
        refine zv_putI C dX9_go_89 f_X9_27 hL.1 rfl ?_
        refine zv_return C dX9_go_92 rfl rfl rfl ?_
        have k := tK_600 (b := AI 101) (n := n) (p := FI 100 4) (by omega) (by omega)
        refine hp _ (((hF.set (by decide)).set (by decide)).set (by decide)) ?_
        unfold tAt
        rw [k.1, k.2]
        simp (disch := omega) only [zsF_eq, zsF_ne, mso]
        exact ⟨h3, (by first | rfl | trivial), (by first | rfl | trivial), fun z => by omega, fun z => by omega, fun z => by omega, by omega, by omega⟩

  intro c600 cn cl
  have hQ := tQ_of hq c600 cn cl
  generalize tR (AI 101) n (FI 100 4) = R at *
  refine zv_iload_n C dX9_go_160 rfl ?_
  refine zv_cSi0_1 C dX9_go_161 k_X9_isLetter l_X9_30 ⟨Nat.le_of_ble_eq_true rfl, Nat.le_of_ble_eq_true rfl⟩ ⟨rfl, rfl⟩ ⟨Nat.le_of_ble_eq_true rfl, Nat.le_of_ble_eq_true rfl⟩ rfl rfl ?_
  refine s_X9_isLetter (fun b161 => ?_) (fun b161 => ?_)
  · refine zv_istore_2 C dX9_go_164 rfl rfl ?_
    refine zv_iconst C dX9_go_165 rfl ?_
    refine zv_istore_3 C dX9_go_166 rfl rfl ?_
    refine zv_aload_n C dX9_go_167 rfl rfl ?_
    refine zv_lconst (x := 0) C dX9_go_168 rfl ?_
    refine zv_putL C dX9_go_169 f_X9_37 hL.1 rfl ?_
    refine zv_aload_n C dX9_go_172 rfl rfl ?_
    refine zv_iconst C dX9_go_173 rfl ?_
    refine zv_putI C dX9_go_174 f_X9_41 hL.1 rfl ?_
    refine go_177 (gd := 0) C hL hb hQ hn2 (by omega) (by omega) hp (n - q).toNat 0 1 none _ (by omega) (by omega) (by rw [show q + ((0 : Nat) : Int) = q by omega]; exact hQ.2.2.2.2.2.2.2.2.1) ⟨(((hF.set (by decide)).set (by decide)).set (by decide)), ?_, ?_, ?_, ?_, ?_, by omega, fun _ => by simp [zdg, zS], fun _ => by simp [zdg, zS]⟩
    · simp (disch := omega) only [zsF_eq, zsF_ne]; exact h3
    · simp (disch := omega) only [zsF_eq, zsF_ne]; omega
    · simp (disch := omega) only [zsF_eq, zsF_ne]
    · simp (disch := omega) only [zsF_eq, zsF_ne]; rfl
    · simp (disch := omega) only [zsF_eq, zsF_ne]; rfl
  · refine zv_istore_2 C dX9_go_164 rfl rfl ?_
    refine zv_iconst C dX9_go_165 rfl ?_
    refine zv_istore_3 C dX9_go_166 rfl rfl ?_
    refine zv_aload_n C dX9_go_167 rfl rfl ?_
    refine zv_lconst (x := 0) C dX9_go_168 rfl ?_
    refine zv_putL C dX9_go_169 f_X9_37 hL.1 rfl ?_
    refine zv_aload_n C dX9_go_172 rfl rfl ?_
    refine zv_iconst C dX9_go_173 rfl ?_
    refine zv_putI C dX9_go_174 f_X9_41 hL.1 rfl ?_
    refine go_177 (gd := 0) C hL hb hQ hn2 (by omega) (by omega) hp (n - q).toNat 0 1 none _ (by omega) (by omega) (by rw [show q + ((0 : Nat) : Int) = q by omega]; exact hQ.2.2.2.2.2.2.2.2.1) ⟨(((hF.set (by decide)).set (by decide)).set (by decide)), ?_, ?_, ?_, ?_, ?_, by omega, fun _ => by simp [zdg, zS], fun _ => by simp [zdg, zS]⟩
    · simp (disch := omega) only [zsF_eq, zsF_ne]; exact h3
    · simp (disch := omega) only [zsF_eq, zsF_ne]; omega
    · simp (disch := omega) only [zsF_eq, zsF_ne]
    · simp (disch := omega) only [zsF_eq, zsF_ne]; rfl
    · simp (disch := omega) only [zsF_eq, zsF_ne]; rfl

