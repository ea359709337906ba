/-! the law's turns, operations behind a wrapper -/
theorem RW_nx {Po : Option Value ⊕ String → Mem → Prop} {code : String → Int32} : ∀ C N, ¬ RW Po code (.inr C) N := fun C N h => by
  rcases h with ⟨_, _, _, h, _⟩ | ⟨_, _, h⟩ <;> cases h
set_option maxHeartbeats 4000000 in
theorem lw_work {l : Launch} {E : EnT} {F : List Frame → Array Value → State → State → Prop} {M : Mem} {cu su i : Nat} {u5 u6 : Option Value} (hst : l.stackTraces = false) (hcu : cu + 1 ≤ 601024) (hsu : su + 6 ≤ 7293034) (hi : i + 6 ≤ eL E) (hL : eL E ≤ 3072) (op : OpX l E mX6_work mX7_work 9 7 [.int (eX E (i + 1))] (fun C => C = xIA ∨ C = xIS) kL_work M) (K : ∀ cu2 su2 N v5 v6, cu2 ≤ cu + 1 → su2 ≤ su + 6 → Inv N → Zz (zl l E F) cu2 su2 985 [some (.ref 2000), some (.ref 0), some (.ref 99), some (.ref 119), some (.int (nI i)), v5, v6] [] N) : Zz (zl l E F) cu su 217 [some (.ref 2000), some (.ref 0), some (.ref 99), some (.ref 119), some (.int (nI i)), u5, u6] [] M := by
  obtain ⟨P1, h1, hv, hok, ki, kt⟩ := op
  have hM := c_L_work hst M (eX E (i + 1)) h1 hv hok
  refine z_aload_n dL_law_217 rfl rfl ?_
  refine z_aload_n dL_law_218 rfl rfl ?_
  refine z_iload dL_law_219 rfl rfl ?_
  refine z_iconst (v := 1) dL_law_221 (by decide) rfl ?_
  refine z_iadd dL_law_222 rfl ?_
  refine z_tp (b := (nI (i + 1))) (by rw [show (1 : Int32) = nI 1 from rfl, nI_add]) ?_
  refine z_sld (X := zl l E F) (vp_in_nI (show i + 1 < eL E by omega) (show eL E < 2 ^ 31 by omega)) dL_law_223 rfl ?_
  refine z_tp (b := (eX E (i + 1))) (by rw [nI_clamp (by omega)]) ?_
  refine z_aload_n dL_law_224 rfl rfl ?_
  refine z_callW (y := mL_work) (hh := hL_work) (n := 3) (st := []) (As := [.ref 0, .int (eX E (i + 1)), .ref 119]) dL_law_225 ml_L_53 cw_L_work sm_L_work in_L ⟨by decide, by decide⟩ (by decide +kernel) (Nat.le_of_ble_eq_true rfl) (Nat.le_of_ble_eq_true rfl) rfl (Nat.le_of_ble_eq_true rfl) hcu hsu hM RW_nx (fun v N q => ?_)
  rcases q with ⟨j, N0, hp, r, hN⟩ | ⟨C, hp, r⟩
  · cases r
    subst hN
    obtain ⟨P2, h2, n2, k2⟩ := ki j N0 hp
    refine z_ist5 dL_law_228 (Nat.le_of_ble_eq_true rfl) rfl ?_
    refine z_aload_n dL_law_230 rfl rfl ?_
    refine z_aload_n dL_law_231 rfl rfl ?_
    refine z_iload dL_law_232 rfl rfl ?_
    refine z_iconst (v := 1) dL_law_234 (by decide) rfl ?_
    refine z_iadd dL_law_235 rfl ?_
    refine z_tp (b := (nI (i + 1))) (by rw [show (1 : Int32) = nI 1 from rfl, nI_add]) ?_
    refine z_sld (X := zl l E F) (vp_in_nI (show i + 1 < eL E by omega) (show eL E < 2 ^ 31 by omega)) dL_law_236 rfl ?_
    refine z_tp (b := (eX E (i + 1))) (by rw [nI_clamp (by omega)]) ?_
    refine z_cg1 (ci := 7) (nf := 32) (y := mX7_work) dL_law_237 ml_L_58 iv_X7_work (Nat.le_of_ble_eq_true rfl) rfl (by decide) rfl (Nat.le_of_ble_eq_true rfl) hcu hsu h2 n2 rfl (fun v2 N2 w => ?_)
    obtain ⟨rfl, e0, e1, hI⟩ := k2 v2 N2 w
    refine z_ist6 dL_law_240 (Nat.le_of_ble_eq_true rfl) rfl ?_
    refine z_aload_n dL_law_242 rfl rfl ?_
    refine z_cv0 (ci := 7) (nf := 32) (y := mX7_thrown) dL_law_243 ml_L_59 iv_X7_thrown (Nat.le_of_ble_eq_true rfl) rfl (by decide) rfl (Nat.le_of_ble_eq_true rfl) hcu hsu (c_X7_thrown hst N2) rfl ?_
    refine z_tp (b := (0)) e0 ?_
    refine z_iload dL_law_246 rfl rfl ?_
    refine z_icmp_eq (tgt := 253) dL_law_248 (by decide) rfl (fun g => ?_) (fun g => ?_)
    · refine z_iload dL_law_253 rfl rfl ?_
      refine z_if_ne (tgt := 270) dL_law_255 (by decide) rfl (fun g1 => ?_) (fun g1 => ?_)
      · exact absurd rfl g1
      · refine z_aload_n dL_law_258 rfl rfl ?_
        refine z_iconst (v := 0) dL_law_259 (by decide) rfl ?_
        refine z_lald rfl dL_law_260 rfl ?_
        rw [e1]
        refine z_iload dL_law_261 rfl rfl ?_
        refine z_i2l dL_law_263 rfl ?_
        refine z_lcmp dL_law_264 rfl ?_
        refine z_if_eq (tgt := 270) dL_law_265 (by decide) rfl (fun g2 => ?_) (fun g2 => ?_)
        · refine z_goto (tgt := 985) dL_law_270 (by decide) ?_
          exact K _ _ N2 _ _ (Nat.le_refl _) (Nat.le_refl _) hI
        · exact absurd (by unfold lg_cmp; simp) g2
    · exact absurd rfl g
  · cases r
    obtain ⟨P2, h2, n2, k2⟩ := kt C N hp
    refine z_ist5 dL_law_228 (Nat.le_of_ble_eq_true rfl) rfl ?_
    refine z_aload_n dL_law_230 rfl rfl ?_
    refine z_aload_n dL_law_231 rfl rfl ?_
    refine z_iload dL_law_232 rfl rfl ?_
    refine z_iconst (v := 1) dL_law_234 (by decide) rfl ?_
    refine z_iadd dL_law_235 rfl ?_
    refine z_tp (b := (nI (i + 1))) (by rw [show (1 : Int32) = nI 1 from rfl, nI_add]) ?_
    refine z_sld (X := zl l E F) (vp_in_nI (show i + 1 < eL E by omega) (show eL E < 2 ^ 31 by omega)) dL_law_236 rfl ?_
    refine z_tp (b := (eX E (i + 1))) (by rw [nI_clamp (by omega)]) ?_
    refine z_cg1 (ci := 7) (nf := 32) (y := mX7_work) dL_law_237 ml_L_58 iv_X7_work (Nat.le_of_ble_eq_true rfl) rfl (by decide) rfl (Nat.le_of_ble_eq_true rfl) hcu hsu h2 n2 rfl (fun v2 N2 w => ?_)
    obtain ⟨⟨j, rfl⟩, e0, hI⟩ := k2 v2 N2 w
    refine z_ist6 dL_law_240 (Nat.le_of_ble_eq_true rfl) rfl ?_
    refine z_aload_n dL_law_242 rfl rfl ?_
    refine z_cv0 (ci := 7) (nf := 32) (y := mX7_thrown) dL_law_243 ml_L_59 iv_X7_thrown (Nat.le_of_ble_eq_true rfl) rfl (by decide) rfl (Nat.le_of_ble_eq_true rfl) hcu hsu (c_X7_thrown hst N2) rfl ?_
    refine z_tp (b := (kL_work C)) e0 ?_
    refine z_iload dL_law_246 rfl rfl ?_
    refine z_icmp_eq (tgt := 253) dL_law_248 (by decide) rfl (fun g => ?_) (fun g => ?_)
    · refine z_iload dL_law_253 rfl rfl ?_
      refine z_if_ne (tgt := 270) dL_law_255 (by decide) rfl (fun g1 => ?_) (fun g1 => ?_)
      · refine z_goto (tgt := 985) dL_law_270 (by decide) ?_
        exact K _ _ N2 _ _ (Nat.le_refl _) (Nat.le_refl _) hI
      · exact absurd g1 (by unfold kL_work; split <;> decide)
    · exact absurd rfl g
set_option maxHeartbeats 4000000 in
theorem lw_told {l : Launch} {E : EnT} {F : List Frame → Array Value → State → State → Prop} {M : Mem} {cu su i : Nat} {u5 u6 : Option Value} (hst : l.stackTraces = false) (hcu : cu + 1 ≤ 601024) (hsu : su + 6 ≤ 7293034) (hi : i + 6 ≤ eL E) (hL : eL E ≤ 3072) (op : OpX l E mX6_told mX7_told 6 1 [.int (eX E (i + 1)), .int (eX E (i + 2))] (fun C => C = xIO ∨ C = xIA) kL_told M) (K : ∀ cu2 su2 N v5 v6, cu2 ≤ cu + 1 → su2 ≤ su + 6 → Inv N → Zz (zl l E F) cu2 su2 985 [some (.ref 2000), some (.ref 0), some (.ref 99), some (.ref 119), some (.int (nI i)), v5, v6] [] N) : Zz (zl l E F) cu su 286 [some (.ref 2000), some (.ref 0), some (.ref 99), some (.ref 119), some (.int (nI i)), u5, u6] [] M := by
  obtain ⟨P1, h1, hv, hok, ki, kt⟩ := op
  have hM := c_L_told hst M (eX E (i + 1)) (eX E (i + 2)) h1 hv hok
  refine z_aload_n dL_law_286 rfl rfl ?_
  refine z_aload_n dL_law_287 rfl rfl ?_
  refine z_iload dL_law_288 rfl rfl ?_
  refine z_iconst (v := 1) dL_law_290 (by decide) rfl ?_
  refine z_iadd dL_law_291 rfl ?_
  refine z_tp (b := (nI (i + 1))) (by rw [show (1 : Int32) = nI 1 from rfl, nI_add]) ?_
  refine z_sld (X := zl l E F) (vp_in_nI (show i + 1 < eL E by omega) (show eL E < 2 ^ 31 by omega)) dL_law_292 rfl ?_
  refine z_tp (b := (eX E (i + 1))) (by rw [nI_clamp (by omega)]) ?_
  refine z_aload_n dL_law_293 rfl rfl ?_
  refine z_iload dL_law_294 rfl rfl ?_
  refine z_iconst (v := 2) dL_law_296 (by decide) rfl ?_
  refine z_iadd dL_law_297 rfl ?_
  refine z_tp (b := (nI (i + 2))) (by rw [show (2 : Int32) = nI 2 from rfl, nI_add]) ?_
  refine z_sld (X := zl l E F) (vp_in_nI (show i + 2 < eL E by omega) (show eL E < 2 ^ 31 by omega)) dL_law_298 rfl ?_
  refine z_tp (b := (eX E (i + 2))) (by rw [nI_clamp (by omega)]) ?_
  refine z_aload_n dL_law_299 rfl rfl ?_
  refine z_callW (y := mL_told) (hh := hL_told) (n := 4) (st := []) (As := [.ref 0, .int (eX E (i + 1)), .int (eX E (i + 2)), .ref 119]) dL_law_300 ml_L_67 cw_L_told sm_L_told in_L ⟨by decide, by decide⟩ (by decide +kernel) (Nat.le_of_ble_eq_true rfl) (Nat.le_of_ble_eq_true rfl) rfl (Nat.le_of_ble_eq_true rfl) hcu hsu hM RW_nx (fun v N q => ?_)
  rcases q with ⟨j, N0, hp, r, hN⟩ | ⟨C, hp, r⟩
  · cases r
    subst hN
    obtain ⟨P2, h2, n2, k2⟩ := ki j N0 hp
    refine z_ist5 dL_law_303 (Nat.le_of_ble_eq_true rfl) rfl ?_
    refine z_aload_n dL_law_305 rfl rfl ?_
    refine z_aload_n dL_law_306 rfl rfl ?_
    refine z_iload dL_law_307 rfl rfl ?_
    refine z_iconst (v := 1) dL_law_309 (by decide) rfl ?_
    refine z_iadd dL_law_310 rfl ?_
    refine z_tp (b := (nI (i + 1))) (by rw [show (1 : Int32) = nI 1 from rfl, nI_add]) ?_
    refine z_sld (X := zl l E F) (vp_in_nI (show i + 1 < eL E by omega) (show eL E < 2 ^ 31 by omega)) dL_law_311 rfl ?_
    refine z_tp (b := (eX E (i + 1))) (by rw [nI_clamp (by omega)]) ?_
    refine z_aload_n dL_law_312 rfl rfl ?_
    refine z_iload dL_law_313 rfl rfl ?_
    refine z_iconst (v := 2) dL_law_315 (by decide) rfl ?_
    refine z_iadd dL_law_316 rfl ?_
    refine z_tp (b := (nI (i + 2))) (by rw [show (2 : Int32) = nI 2 from rfl, nI_add]) ?_
    refine z_sld (X := zl l E F) (vp_in_nI (show i + 2 < eL E by omega) (show eL E < 2 ^ 31 by omega)) dL_law_317 rfl ?_
    refine z_tp (b := (eX E (i + 2))) (by rw [nI_clamp (by omega)]) ?_
    refine z_cg2 (ci := 7) (nf := 32) (y := mX7_told) dL_law_318 ml_L_70 iv_X7_told (Nat.le_of_ble_eq_true rfl) rfl (by decide) rfl (Nat.le_of_ble_eq_true rfl) hcu hsu h2 n2 rfl (fun v2 N2 w => ?_)
    obtain ⟨rfl, e0, e1, hI⟩ := k2 v2 N2 w
    refine z_ist6 dL_law_321 (Nat.le_of_ble_eq_true rfl) rfl ?_
    refine z_aload_n dL_law_323 rfl rfl ?_
    refine z_cv0 (ci := 7) (nf := 32) (y := mX7_thrown) dL_law_324 ml_L_59 iv_X7_thrown (Nat.le_of_ble_eq_true rfl) rfl (by decide) rfl (Nat.le_of_ble_eq_true rfl) hcu hsu (c_X7_thrown hst N2) rfl ?_
    refine z_tp (b := (0)) e0 ?_
    refine z_iload dL_law_327 rfl rfl ?_
    refine z_icmp_eq (tgt := 334) dL_law_329 (by decide) rfl (fun g => ?_) (fun g => ?_)
    · refine z_iload dL_law_334 rfl rfl ?_
      refine z_if_ne (tgt := 351) dL_law_336 (by decide) rfl (fun g1 => ?_) (fun g1 => ?_)
      · exact absurd rfl g1
      · refine z_aload_n dL_law_339 rfl rfl ?_
        refine z_iconst (v := 0) dL_law_340 (by decide) rfl ?_
        refine z_lald rfl dL_law_341 rfl ?_
        rw [e1]
        refine z_iload dL_law_342 rfl rfl ?_
        refine z_i2l dL_law_344 rfl ?_
        refine z_lcmp dL_law_345 rfl ?_
        refine z_if_eq (tgt := 351) dL_law_346 (by decide) rfl (fun g2 => ?_) (fun g2 => ?_)
        · refine z_goto (tgt := 985) dL_law_351 (by decide) ?_
          exact K _ _ N2 _ _ (Nat.le_refl _) (Nat.le_refl _) hI
        · exact absurd (by unfold lg_cmp; simp) g2
    · exact absurd rfl g
  · cases r
    obtain ⟨P2, h2, n2, k2⟩ := kt C N hp
    refine z_ist5 dL_law_303 (Nat.le_of_ble_eq_true rfl) rfl ?_
    refine z_aload_n dL_law_305 rfl rfl ?_
    refine z_aload_n dL_law_306 rfl rfl ?_
    refine z_iload dL_law_307 rfl rfl ?_
    refine z_iconst (v := 1) dL_law_309 (by decide) rfl ?_
    refine z_iadd dL_law_310 rfl ?_
    refine z_tp (b := (nI (i + 1))) (by rw [show (1 : Int32) = nI 1 from rfl, nI_add]) ?_
    refine z_sld (X := zl l E F) (vp_in_nI (show i + 1 < eL E by omega) (show eL E < 2 ^ 31 by omega)) dL_law_311 rfl ?_
    refine z_tp (b := (eX E (i + 1))) (by rw [nI_clamp (by omega)]) ?_
    refine z_aload_n dL_law_312 rfl rfl ?_
    refine z_iload dL_law_313 rfl rfl ?_
    refine z_iconst (v := 2) dL_law_315 (by decide) rfl ?_
    refine z_iadd dL_law_316 rfl ?_
    refine z_tp (b := (nI (i + 2))) (by rw [show (2 : Int32) = nI 2 from rfl, nI_add]) ?_
    refine z_sld (X := zl l E F) (vp_in_nI (show i + 2 < eL E by omega) (show eL E < 2 ^ 31 by omega)) dL_law_317 rfl ?_
    refine z_tp (b := (eX E (i + 2))) (by rw [nI_clamp (by omega)]) ?_
    refine z_cg2 (ci := 7) (nf := 32) (y := mX7_told) dL_law_318 ml_L_70 iv_X7_told (Nat.le_of_ble_eq_true rfl) rfl (by decide) rfl (Nat.le_of_ble_eq_true rfl) hcu hsu h2 n2 rfl (fun v2 N2 w => ?_)
    obtain ⟨⟨j, rfl⟩, e0, hI⟩ := k2 v2 N2 w
    refine z_ist6 dL_law_321 (Nat.le_of_ble_eq_true rfl) rfl ?_
    refine z_aload_n dL_law_323 rfl rfl ?_
    refine z_cv0 (ci := 7) (nf := 32) (y := mX7_thrown) dL_law_324 ml_L_59 iv_X7_thrown (Nat.le_of_ble_eq_true rfl) rfl (by decide) rfl (Nat.le_of_ble_eq_true rfl) hcu hsu (c_X7_thrown hst N2) rfl ?_
    refine z_tp (b := (kL_told C)) e0 ?_
    refine z_iload dL_law_327 rfl rfl ?_
    refine z_icmp_eq (tgt := 334) dL_law_329 (by decide) rfl (fun g => ?_) (fun g => ?_)
    · refine z_iload dL_law_334 rfl rfl ?_
      refine z_if_ne (tgt := 351) dL_law_336 (by decide) rfl (fun g1 => ?_) (fun g1 => ?_)
      · refine z_goto (tgt := 985) dL_law_351 (by decide) ?_
        exact K _ _ N2 _ _ (Nat.le_refl _) (Nat.le_refl _) hI
      · exact absurd g1 (by unfold kL_told; split <;> decide)
    · exact absurd rfl g
set_option maxHeartbeats 4000000 in
theorem lw_set {l : Launch} {E : EnT} {F : List Frame → Array Value → State → State → Prop} {M : Mem} {cu su i : Nat} {u5 u6 : Option Value} (hst : l.stackTraces = false) (hcu : cu + 1 ≤ 601024) (hsu : su + 6 ≤ 7293034) (hi : i + 6 ≤ eL E) (hL : eL E ≤ 3072) (op : OpX l E mX6_set mX7_set 6 1 [.int (eX E (i + 1)), .int (eX E (i + 2))] (fun C => C = xIA) kL_set M) (K : ∀ cu2 su2 N v5 v6, cu2 ≤ cu + 1 → su2 ≤ su + 6 → Inv N → Zz (zl l E F) cu2 su2 985 [some (.ref 2000), some (.ref 0), some (.ref 99), some (.ref 119), some (.int (nI i)), v5, v6] [] N) : Zz (zl l E F) cu su 354 [some (.ref 2000), some (.ref 0), some (.ref 99), some (.ref 119), some (.int (nI i)), u5, u6] [] M := by
  obtain ⟨P1, h1, hv, hok, ki, kt⟩ := op
  have hM := c_L_set hst M (eX E (i + 1)) (eX E (i + 2)) h1 hv hok
  refine z_aload_n dL_law_354 rfl rfl ?_
  refine z_aload_n dL_law_355 rfl rfl ?_
  refine z_iload dL_law_356 rfl rfl ?_
  refine z_iconst (v := 1) dL_law_358 (by decide) rfl ?_
  refine z_iadd dL_law_359 rfl ?_
  refine z_tp (b := (nI (i + 1))) (by rw [show (1 : Int32) = nI 1 from rfl, nI_add]) ?_
  refine z_sld (X := zl l E F) (vp_in_nI (show i + 1 < eL E by omega) (show eL E < 2 ^ 31 by omega)) dL_law_360 rfl ?_
  refine z_tp (b := (eX E (i + 1))) (by rw [nI_clamp (by omega)]) ?_
  refine z_aload_n dL_law_361 rfl rfl ?_
  refine z_iload dL_law_362 rfl rfl ?_
  refine z_iconst (v := 2) dL_law_364 (by decide) rfl ?_
  refine z_iadd dL_law_365 rfl ?_
  refine z_tp (b := (nI (i + 2))) (by rw [show (2 : Int32) = nI 2 from rfl, nI_add]) ?_
  refine z_sld (X := zl l E F) (vp_in_nI (show i + 2 < eL E by omega) (show eL E < 2 ^ 31 by omega)) dL_law_366 rfl ?_
  refine z_tp (b := (eX E (i + 2))) (by rw [nI_clamp (by omega)]) ?_
  refine z_aload_n dL_law_367 rfl rfl ?_
  refine z_callW (y := mL_set) (hh := hL_set) (n := 4) (st := []) (As := [.ref 0, .int (eX E (i + 1)), .int (eX E (i + 2)), .ref 119]) dL_law_368 ml_L_71 cw_L_set sm_L_set in_L ⟨by decide, by decide⟩ (by decide +kernel) (Nat.le_of_ble_eq_true rfl) (Nat.le_of_ble_eq_true rfl) rfl (Nat.le_of_ble_eq_true rfl) hcu hsu hM RW_nx (fun v N q => ?_)
  rcases q with ⟨j, N0, hp, r, hN⟩ | ⟨C, hp, r⟩
  · cases r
    subst hN
    obtain ⟨P2, h2, n2, k2⟩ := ki j N0 hp
    refine z_ist5 dL_law_371 (Nat.le_of_ble_eq_true rfl) rfl ?_
    refine z_aload_n dL_law_373 rfl rfl ?_
    refine z_aload_n dL_law_374 rfl rfl ?_
    refine z_iload dL_law_375 rfl rfl ?_
    refine z_iconst (v := 1) dL_law_377 (by decide) rfl ?_
    refine z_iadd dL_law_378 rfl ?_
    refine z_tp (b := (nI (i + 1))) (by rw [show (1 : Int32) = nI 1 from rfl, nI_add]) ?_
    refine z_sld (X := zl l E F) (vp_in_nI (show i + 1 < eL E by omega) (show eL E < 2 ^ 31 by omega)) dL_law_379 rfl ?_
    refine z_tp (b := (eX E (i + 1))) (by rw [nI_clamp (by omega)]) ?_
    refine z_aload_n dL_law_380 rfl rfl ?_
    refine z_iload dL_law_381 rfl rfl ?_
    refine z_iconst (v := 2) dL_law_383 (by decide) rfl ?_
    refine z_iadd dL_law_384 rfl ?_
    refine z_tp (b := (nI (i + 2))) (by rw [show (2 : Int32) = nI 2 from rfl, nI_add]) ?_
    refine z_sld (X := zl l E F) (vp_in_nI (show i + 2 < eL E by omega) (show eL E < 2 ^ 31 by omega)) dL_law_385 rfl ?_
    refine z_tp (b := (eX E (i + 2))) (by rw [nI_clamp (by omega)]) ?_
    refine z_cg2 (ci := 7) (nf := 32) (y := mX7_set) dL_law_386 ml_L_73 iv_X7_set (Nat.le_of_ble_eq_true rfl) rfl (by decide) rfl (Nat.le_of_ble_eq_true rfl) hcu hsu h2 n2 rfl (fun v2 N2 w => ?_)
    obtain ⟨rfl, e0, e1, hI⟩ := k2 v2 N2 w
    refine z_ist6 dL_law_389 (Nat.le_of_ble_eq_true rfl) rfl ?_
    refine z_aload_n dL_law_391 rfl rfl ?_
    refine z_cv0 (ci := 7) (nf := 32) (y := mX7_thrown) dL_law_392 ml_L_59 iv_X7_thrown (Nat.le_of_ble_eq_true rfl) rfl (by decide) rfl (Nat.le_of_ble_eq_true rfl) hcu hsu (c_X7_thrown hst N2) rfl ?_
    refine z_tp (b := (0)) e0 ?_
    refine z_iload dL_law_395 rfl rfl ?_
    refine z_icmp_eq (tgt := 402) dL_law_397 (by decide) rfl (fun g => ?_) (fun g => ?_)
    · refine z_iload dL_law_402 rfl rfl ?_
      refine z_if_ne (tgt := 419) dL_law_404 (by decide) rfl (fun g1 => ?_) (fun g1 => ?_)
      · exact absurd rfl g1
      · refine z_aload_n dL_law_407 rfl rfl ?_
        refine z_iconst (v := 0) dL_law_408 (by decide) rfl ?_
        refine z_lald rfl dL_law_409 rfl ?_
        rw [e1]
        refine z_iload dL_law_410 rfl rfl ?_
        refine z_i2l dL_law_412 rfl ?_
        refine z_lcmp dL_law_413 rfl ?_
        refine z_if_eq (tgt := 419) dL_law_414 (by decide) rfl (fun g2 => ?_) (fun g2 => ?_)
        · refine z_goto (tgt := 985) dL_law_419 (by decide) ?_
          exact K _ _ N2 _ _ (Nat.le_refl _) (Nat.le_refl _) hI
        · exact absurd (by unfold lg_cmp; simp) g2
    · exact absurd rfl g
  · cases r
    obtain ⟨P2, h2, n2, k2⟩ := kt C N hp
    refine z_ist5 dL_law_371 (Nat.le_of_ble_eq_true rfl) rfl ?_
    refine z_aload_n dL_law_373 rfl rfl ?_
    refine z_aload_n dL_law_374 rfl rfl ?_
    refine z_iload dL_law_375 rfl rfl ?_
    refine z_iconst (v := 1) dL_law_377 (by decide) rfl ?_
    refine z_iadd dL_law_378 rfl ?_
    refine z_tp (b := (nI (i + 1))) (by rw [show (1 : Int32) = nI 1 from rfl, nI_add]) ?_
    refine z_sld (X := zl l E F) (vp_in_nI (show i + 1 < eL E by omega) (show eL E < 2 ^ 31 by omega)) dL_law_379 rfl ?_
    refine z_tp (b := (eX E (i + 1))) (by rw [nI_clamp (by omega)]) ?_
    refine z_aload_n dL_law_380 rfl rfl ?_
    refine z_iload dL_law_381 rfl rfl ?_
    refine z_iconst (v := 2) dL_law_383 (by decide) rfl ?_
    refine z_iadd dL_law_384 rfl ?_
    refine z_tp (b := (nI (i + 2))) (by rw [show (2 : Int32) = nI 2 from rfl, nI_add]) ?_
    refine z_sld (X := zl l E F) (vp_in_nI (show i + 2 < eL E by omega) (show eL E < 2 ^ 31 by omega)) dL_law_385 rfl ?_
    refine z_tp (b := (eX E (i + 2))) (by rw [nI_clamp (by omega)]) ?_
    refine z_cg2 (ci := 7) (nf := 32) (y := mX7_set) dL_law_386 ml_L_73 iv_X7_set (Nat.le_of_ble_eq_true rfl) rfl (by decide) rfl (Nat.le_of_ble_eq_true rfl) hcu hsu h2 n2 rfl (fun v2 N2 w => ?_)
    obtain ⟨⟨j, rfl⟩, e0, hI⟩ := k2 v2 N2 w
    refine z_ist6 dL_law_389 (Nat.le_of_ble_eq_true rfl) rfl ?_
    refine z_aload_n dL_law_391 rfl rfl ?_
    refine z_cv0 (ci := 7) (nf := 32) (y := mX7_thrown) dL_law_392 ml_L_59 iv_X7_thrown (Nat.le_of_ble_eq_true rfl) rfl (by decide) rfl (Nat.le_of_ble_eq_true rfl) hcu hsu (c_X7_thrown hst N2) rfl ?_
    refine z_tp (b := (kL_set C)) e0 ?_
    refine z_iload dL_law_395 rfl rfl ?_
    refine z_icmp_eq (tgt := 402) dL_law_397 (by decide) rfl (fun g => ?_) (fun g => ?_)
    · refine z_iload dL_law_402 rfl rfl ?_
      refine z_if_ne (tgt := 419) dL_law_404 (by decide) rfl (fun g1 => ?_) (fun g1 => ?_)
      · refine z_goto (tgt := 985) dL_law_419 (by decide) ?_
        exact K _ _ N2 _ _ (Nat.le_refl _) (Nat.le_refl _) hI
      · exact absurd g1 (by unfold kL_set; split <;> decide)
    · exact absurd rfl g
set_option maxHeartbeats 4000000 in
theorem lw_hours {l : Launch} {E : EnT} {F : List Frame → Array Value → State → State → Prop} {M : Mem} {cu su i : Nat} {u5 u6 : Option Value} (hst : l.stackTraces = false) (hcu : cu + 1 ≤ 601024) (hsu : su + 6 ≤ 7293034) (hi : i + 6 ≤ eL E) (hL : eL E ≤ 3072) (op : OpX l E mX6_hours mX7_hours 6 1 [.int (eX E (i + 1)), .int (eX E (i + 2))] (fun C => C = xIO ∨ C = xIA) kL_hours M) (K : ∀ cu2 su2 N v5 v6, cu2 ≤ cu + 1 → su2 ≤ su + 6 → Inv N → Zz (zl l E F) cu2 su2 985 [some (.ref 2000), some (.ref 0), some (.ref 99), some (.ref 119), some (.int (nI i)), v5, v6] [] N) : Zz (zl l E F) cu su 460 [some (.ref 2000), some (.ref 0), some (.ref 99), some (.ref 119), some (.int (nI i)), u5, u6] [] M := by
  obtain ⟨P1, h1, hv, hok, ki, kt⟩ := op
  have hM := c_L_hours hst M (eX E (i + 1)) (eX E (i + 2)) h1 hv hok
  refine z_aload_n dL_law_460 rfl rfl ?_
  refine z_aload_n dL_law_461 rfl rfl ?_
  refine z_iload dL_law_462 rfl rfl ?_
  refine z_iconst (v := 1) dL_law_464 (by decide) rfl ?_
  refine z_iadd dL_law_465 rfl ?_
  refine z_tp (b := (nI (i + 1))) (by rw [show (1 : Int32) = nI 1 from rfl, nI_add]) ?_
  refine z_sld (X := zl l E F) (vp_in_nI (show i + 1 < eL E by omega) (show eL E < 2 ^ 31 by omega)) dL_law_466 rfl ?_
  refine z_tp (b := (eX E (i + 1))) (by rw [nI_clamp (by omega)]) ?_
  refine z_aload_n dL_law_467 rfl rfl ?_
  refine z_iload dL_law_468 rfl rfl ?_
  refine z_iconst (v := 2) dL_law_470 (by decide) rfl ?_
  refine z_iadd dL_law_471 rfl ?_
  refine z_tp (b := (nI (i + 2))) (by rw [show (2 : Int32) = nI 2 from rfl, nI_add]) ?_
  refine z_sld (X := zl l E F) (vp_in_nI (show i + 2 < eL E by omega) (show eL E < 2 ^ 31 by omega)) dL_law_472 rfl ?_
  refine z_tp (b := (eX E (i + 2))) (by rw [nI_clamp (by omega)]) ?_
  refine z_aload_n dL_law_473 rfl rfl ?_
  refine z_callW (y := mL_hours) (hh := hL_hours) (n := 4) (st := []) (As := [.ref 0, .int (eX E (i + 1)), .int (eX E (i + 2)), .ref 119]) dL_law_474 ml_L_82 cw_L_hours sm_L_hours in_L ⟨by decide, by decide⟩ (by decide +kernel) (Nat.le_of_ble_eq_true rfl) (Nat.le_of_ble_eq_true rfl) rfl (Nat.le_of_ble_eq_true rfl) hcu hsu hM RW_nx (fun v N q => ?_)
  rcases q with ⟨j, N0, hp, r, hN⟩ | ⟨C, hp, r⟩
  · cases r
    subst hN
    obtain ⟨P2, h2, n2, k2⟩ := ki j N0 hp
    refine z_ist5 dL_law_477 (Nat.le_of_ble_eq_true rfl) rfl ?_
    refine z_aload_n dL_law_479 rfl rfl ?_
    refine z_aload_n dL_law_480 rfl rfl ?_
    refine z_iload dL_law_481 rfl rfl ?_
    refine z_iconst (v := 1) dL_law_483 (by decide) rfl ?_
    refine z_iadd dL_law_484 rfl ?_
    refine z_tp (b := (nI (i + 1))) (by rw [show (1 : Int32) = nI 1 from rfl, nI_add]) ?_
    refine z_sld (X := zl l E F) (vp_in_nI (show i + 1 < eL E by omega) (show eL E < 2 ^ 31 by omega)) dL_law_485 rfl ?_
    refine z_tp (b := (eX E (i + 1))) (by rw [nI_clamp (by omega)]) ?_
    refine z_aload_n dL_law_486 rfl rfl ?_
    refine z_iload dL_law_487 rfl rfl ?_
    refine z_iconst (v := 2) dL_law_489 (by decide) rfl ?_
    refine z_iadd dL_law_490 rfl ?_
    refine z_tp (b := (nI (i + 2))) (by rw [show (2 : Int32) = nI 2 from rfl, nI_add]) ?_
    refine z_sld (X := zl l E F) (vp_in_nI (show i + 2 < eL E by omega) (show eL E < 2 ^ 31 by omega)) dL_law_491 rfl ?_
    refine z_tp (b := (eX E (i + 2))) (by rw [nI_clamp (by omega)]) ?_
    refine z_cg2 (ci := 7) (nf := 32) (y := mX7_hours) dL_law_492 ml_L_84 iv_X7_hours (Nat.le_of_ble_eq_true rfl) rfl (by decide) rfl (Nat.le_of_ble_eq_true rfl) hcu hsu h2 n2 rfl (fun v2 N2 w => ?_)
    obtain ⟨rfl, e0, e1, hI⟩ := k2 v2 N2 w
    refine z_ist6 dL_law_495 (Nat.le_of_ble_eq_true rfl) rfl ?_
    refine z_aload_n dL_law_497 rfl rfl ?_
    refine z_cv0 (ci := 7) (nf := 32) (y := mX7_thrown) dL_law_498 ml_L_59 iv_X7_thrown (Nat.le_of_ble_eq_true rfl) rfl (by decide) rfl (Nat.le_of_ble_eq_true rfl) hcu hsu (c_X7_thrown hst N2) rfl ?_
    refine z_tp (b := (0)) e0 ?_
    refine z_iload dL_law_501 rfl rfl ?_
    refine z_icmp_eq (tgt := 508) dL_law_503 (by decide) rfl (fun g => ?_) (fun g => ?_)
    · refine z_iload dL_law_508 rfl rfl ?_
      refine z_if_ne (tgt := 525) dL_law_510 (by decide) rfl (fun g1 => ?_) (fun g1 => ?_)
      · exact absurd rfl g1
      · refine z_aload_n dL_law_513 rfl rfl ?_
        refine z_iconst (v := 0) dL_law_514 (by decide) rfl ?_
        refine z_lald rfl dL_law_515 rfl ?_
        rw [e1]
        refine z_iload dL_law_516 rfl rfl ?_
        refine z_i2l dL_law_518 rfl ?_
        refine z_lcmp dL_law_519 rfl ?_
        refine z_if_eq (tgt := 525) dL_law_520 (by decide) rfl (fun g2 => ?_) (fun g2 => ?_)
        · refine z_goto (tgt := 985) dL_law_525 (by decide) ?_
          exact K _ _ N2 _ _ (Nat.le_refl _) (Nat.le_refl _) hI
        · exact absurd (by unfold lg_cmp; simp) g2
    · exact absurd rfl g
  · cases r
    obtain ⟨P2, h2, n2, k2⟩ := kt C N hp
    refine z_ist5 dL_law_477 (Nat.le_of_ble_eq_true rfl) rfl ?_
    refine z_aload_n dL_law_479 rfl rfl ?_
    refine z_aload_n dL_law_480 rfl rfl ?_
    refine z_iload dL_law_481 rfl rfl ?_
    refine z_iconst (v := 1) dL_law_483 (by decide) rfl ?_
    refine z_iadd dL_law_484 rfl ?_
    refine z_tp (b := (nI (i + 1))) (by rw [show (1 : Int32) = nI 1 from rfl, nI_add]) ?_
    refine z_sld (X := zl l E F) (vp_in_nI (show i + 1 < eL E by omega) (show eL E < 2 ^ 31 by omega)) dL_law_485 rfl ?_
    refine z_tp (b := (eX E (i + 1))) (by rw [nI_clamp (by omega)]) ?_
    refine z_aload_n dL_law_486 rfl rfl ?_
    refine z_iload dL_law_487 rfl rfl ?_
    refine z_iconst (v := 2) dL_law_489 (by decide) rfl ?_
    refine z_iadd dL_law_490 rfl ?_
    refine z_tp (b := (nI (i + 2))) (by rw [show (2 : Int32) = nI 2 from rfl, nI_add]) ?_
    refine z_sld (X := zl l E F) (vp_in_nI (show i + 2 < eL E by omega) (show eL E < 2 ^ 31 by omega)) dL_law_491 rfl ?_
    refine z_tp (b := (eX E (i + 2))) (by rw [nI_clamp (by omega)]) ?_
    refine z_cg2 (ci := 7) (nf := 32) (y := mX7_hours) dL_law_492 ml_L_84 iv_X7_hours (Nat.le_of_ble_eq_true rfl) rfl (by decide) rfl (Nat.le_of_ble_eq_true rfl) hcu hsu h2 n2 rfl (fun v2 N2 w => ?_)
    obtain ⟨⟨j, rfl⟩, e0, hI⟩ := k2 v2 N2 w
    refine z_ist6 dL_law_495 (Nat.le_of_ble_eq_true rfl) rfl ?_
    refine z_aload_n dL_law_497 rfl rfl ?_
    refine z_cv0 (ci := 7) (nf := 32) (y := mX7_thrown) dL_law_498 ml_L_59 iv_X7_thrown (Nat.le_of_ble_eq_true rfl) rfl (by decide) rfl (Nat.le_of_ble_eq_true rfl) hcu hsu (c_X7_thrown hst N2) rfl ?_
    refine z_tp (b := (kL_hours C)) e0 ?_
    refine z_iload dL_law_501 rfl rfl ?_
    refine z_icmp_eq (tgt := 508) dL_law_503 (by decide) rfl (fun g => ?_) (fun g => ?_)
    · refine z_iload dL_law_508 rfl rfl ?_
      refine z_if_ne (tgt := 525) dL_law_510 (by decide) rfl (fun g1 => ?_) (fun g1 => ?_)
      · refine z_goto (tgt := 985) dL_law_525 (by decide) ?_
        exact K _ _ N2 _ _ (Nat.le_refl _) (Nat.le_refl _) hI
      · exact absurd g1 (by unfold kL_hours; split <;> decide)
    · exact absurd rfl g
set_option maxHeartbeats 4000000 in
theorem lw_end {l : Launch} {E : EnT} {F : List Frame → Array Value → State → State → Prop} {M : Mem} {cu su i : Nat} {u5 u6 : Option Value} (hst : l.stackTraces = false) (hcu : cu + 1 ≤ 601024) (hsu : su + 6 ≤ 7293034) (hi : i + 6 ≤ eL E) (hL : eL E ≤ 3072) (op : OpX l E mX6_end mX7_end 6 2 [.int (eX E (i + 1))] (fun C => C = xIA) kL_end M) (K : ∀ cu2 su2 N v5 v6, cu2 ≤ cu + 1 → su2 ≤ su + 6 → Inv N → Zz (zl l E F) cu2 su2 985 [some (.ref 2000), some (.ref 0), some (.ref 99), some (.ref 119), some (.int (nI i)), v5, v6] [] N) : Zz (zl l E F) cu su 528 [some (.ref 2000), some (.ref 0), some (.ref 99), some (.ref 119), some (.int (nI i)), u5, u6] [] M := by
  obtain ⟨P1, h1, hv, hok, ki, kt⟩ := op
  have hM := c_L_end hst M (eX E (i + 1)) h1 hv hok
  refine z_aload_n dL_law_528 rfl rfl ?_
  refine z_aload_n dL_law_529 rfl rfl ?_
  refine z_iload dL_law_530 rfl rfl ?_
  refine z_iconst (v := 1) dL_law_532 (by decide) rfl ?_
  refine z_iadd dL_law_533 rfl ?_
  refine z_tp (b := (nI (i + 1))) (by rw [show (1 : Int32) = nI 1 from rfl, nI_add]) ?_
  refine z_sld (X := zl l E F) (vp_in_nI (show i + 1 < eL E by omega) (show eL E < 2 ^ 31 by omega)) dL_law_534 rfl ?_
  refine z_tp (b := (eX E (i + 1))) (by rw [nI_clamp (by omega)]) ?_
  refine z_aload_n dL_law_535 rfl rfl ?_
  refine z_callW (y := mL_end) (hh := hL_end) (n := 3) (st := []) (As := [.ref 0, .int (eX E (i + 1)), .ref 119]) dL_law_536 ml_L_85 cw_L_end sm_L_end in_L ⟨by decide, by decide⟩ (by decide +kernel) (Nat.le_of_ble_eq_true rfl) (Nat.le_of_ble_eq_true rfl) rfl (Nat.le_of_ble_eq_true rfl) hcu hsu hM RW_nx (fun v N q => ?_)
  rcases q with ⟨j, N0, hp, r, hN⟩ | ⟨C, hp, r⟩
  · cases r
    subst hN
    obtain ⟨P2, h2, n2, k2⟩ := ki j N0 hp
    refine z_ist5 dL_law_539 (Nat.le_of_ble_eq_true rfl) rfl ?_
    refine z_aload_n dL_law_541 rfl rfl ?_
    refine z_aload_n dL_law_542 rfl rfl ?_
    refine z_iload dL_law_543 rfl rfl ?_
    refine z_iconst (v := 1) dL_law_545 (by decide) rfl ?_
    refine z_iadd dL_law_546 rfl ?_
    refine z_tp (b := (nI (i + 1))) (by rw [show (1 : Int32) = nI 1 from rfl, nI_add]) ?_
    refine z_sld (X := zl l E F) (vp_in_nI (show i + 1 < eL E by omega) (show eL E < 2 ^ 31 by omega)) dL_law_547 rfl ?_
    refine z_tp (b := (eX E (i + 1))) (by rw [nI_clamp (by omega)]) ?_
    refine z_cg1 (ci := 7) (nf := 32) (y := mX7_end) dL_law_548 ml_L_87 iv_X7_end (Nat.le_of_ble_eq_true rfl) rfl (by decide) rfl (Nat.le_of_ble_eq_true rfl) hcu hsu h2 n2 rfl (fun v2 N2 w => ?_)
    obtain ⟨rfl, e0, e1, hI⟩ := k2 v2 N2 w
    refine z_ist6 dL_law_551 (Nat.le_of_ble_eq_true rfl) rfl ?_
    refine z_aload_n dL_law_553 rfl rfl ?_
    refine z_cv0 (ci := 7) (nf := 32) (y := mX7_thrown) dL_law_554 ml_L_59 iv_X7_thrown (Nat.le_of_ble_eq_true rfl) rfl (by decide) rfl (Nat.le_of_ble_eq_true rfl) hcu hsu (c_X7_thrown hst N2) rfl ?_
    refine z_tp (b := (0)) e0 ?_
    refine z_iload dL_law_557 rfl rfl ?_
    refine z_icmp_eq (tgt := 564) dL_law_559 (by decide) rfl (fun g => ?_) (fun g => ?_)
    · refine z_iload dL_law_564 rfl rfl ?_
      refine z_if_ne (tgt := 581) dL_law_566 (by decide) rfl (fun g1 => ?_) (fun g1 => ?_)
      · exact absurd rfl g1
      · refine z_aload_n dL_law_569 rfl rfl ?_
        refine z_iconst (v := 0) dL_law_570 (by decide) rfl ?_
        refine z_lald rfl dL_law_571 rfl ?_
        rw [e1]
        refine z_iload dL_law_572 rfl rfl ?_
        refine z_i2l dL_law_574 rfl ?_
        refine z_lcmp dL_law_575 rfl ?_
        refine z_if_eq (tgt := 581) dL_law_576 (by decide) rfl (fun g2 => ?_) (fun g2 => ?_)
        · refine z_goto (tgt := 985) dL_law_581 (by decide) ?_
          exact K _ _ N2 _ _ (Nat.le_refl _) (Nat.le_refl _) hI
        · exact absurd (by unfold lg_cmp; simp) g2
    · exact absurd rfl g
  · cases r
    obtain ⟨P2, h2, n2, k2⟩ := kt C N hp
    refine z_ist5 dL_law_539 (Nat.le_of_ble_eq_true rfl) rfl ?_
    refine z_aload_n dL_law_541 rfl rfl ?_
    refine z_aload_n dL_law_542 rfl rfl ?_
    refine z_iload dL_law_543 rfl rfl ?_
    refine z_iconst (v := 1) dL_law_545 (by decide) rfl ?_
    refine z_iadd dL_law_546 rfl ?_
    refine z_tp (b := (nI (i + 1))) (by rw [show (1 : Int32) = nI 1 from rfl, nI_add]) ?_
    refine z_sld (X := zl l E F) (vp_in_nI (show i + 1 < eL E by omega) (show eL E < 2 ^ 31 by omega)) dL_law_547 rfl ?_
    refine z_tp (b := (eX E (i + 1))) (by rw [nI_clamp (by omega)]) ?_
    refine z_cg1 (ci := 7) (nf := 32) (y := mX7_end) dL_law_548 ml_L_87 iv_X7_end (Nat.le_of_ble_eq_true rfl) rfl (by decide) rfl (Nat.le_of_ble_eq_true rfl) hcu hsu h2 n2 rfl (fun v2 N2 w => ?_)
    obtain ⟨⟨j, rfl⟩, e0, hI⟩ := k2 v2 N2 w
    refine z_ist6 dL_law_551 (Nat.le_of_ble_eq_true rfl) rfl ?_
    refine z_aload_n dL_law_553 rfl rfl ?_
    refine z_cv0 (ci := 7) (nf := 32) (y := mX7_thrown) dL_law_554 ml_L_59 iv_X7_thrown (Nat.le_of_ble_eq_true rfl) rfl (by decide) rfl (Nat.le_of_ble_eq_true rfl) hcu hsu (c_X7_thrown hst N2) rfl ?_
    refine z_tp (b := (kL_end C)) e0 ?_
    refine z_iload dL_law_557 rfl rfl ?_
    refine z_icmp_eq (tgt := 564) dL_law_559 (by decide) rfl (fun g => ?_) (fun g => ?_)
    · refine z_iload dL_law_564 rfl rfl ?_
      refine z_if_ne (tgt := 581) dL_law_566 (by decide) rfl (fun g1 => ?_) (fun g1 => ?_)
      · refine z_goto (tgt := 985) dL_law_581 (by decide) ?_
        exact K _ _ N2 _ _ (Nat.le_refl _) (Nat.le_refl _) hI
      · exact absurd g1 (by unfold kL_end; split <;> decide)
    · exact absurd rfl g
set_option maxHeartbeats 4000000 in
theorem lw_begins {l : Launch} {E : EnT} {F : List Frame → Array Value → State → State → Prop} {M : Mem} {cu su i : Nat} {u5 u6 : Option Value} (hst : l.stackTraces = false) (hcu : cu + 1 ≤ 601024) (hsu : su + 6 ≤ 7293034) (hi : i + 6 ≤ eL E) (hL : eL E ≤ 3072) (op : OpX l E mX6_begins mX7_begins 6 2 [.int (eX E (i + 1)), .int (eX E (i + 2))] (fun C => C = xIO ∨ C = xIA) kL_begins M) (K : ∀ cu2 su2 N v5 v6, cu2 ≤ cu + 1 → su2 ≤ su + 6 → Inv N → Zz (zl l E F) cu2 su2 985 [some (.ref 2000), some (.ref 0), some (.ref 99), some (.ref 119), some (.int (nI i)), v5, v6] [] N) : Zz (zl l E F) cu su 584 [some (.ref 2000), some (.ref 0), some (.ref 99), some (.ref 119), some (.int (nI i)), u5, u6] [] M := by
  obtain ⟨P1, h1, hv, hok, ki, kt⟩ := op
  have hM := c_L_begins hst M (eX E (i + 1)) (eX E (i + 2)) h1 hv hok
  refine z_aload_n dL_law_584 rfl rfl ?_
  refine z_aload_n dL_law_585 rfl rfl ?_
  refine z_iload dL_law_586 rfl rfl ?_
  refine z_iconst (v := 1) dL_law_588 (by decide) rfl ?_
  refine z_iadd dL_law_589 rfl ?_
  refine z_tp (b := (nI (i + 1))) (by rw [show (1 : Int32) = nI 1 from rfl, nI_add]) ?_
  refine z_sld (X := zl l E F) (vp_in_nI (show i + 1 < eL E by omega) (show eL E < 2 ^ 31 by omega)) dL_law_590 rfl ?_
  refine z_tp (b := (eX E (i + 1))) (by rw [nI_clamp (by omega)]) ?_
  refine z_aload_n dL_law_591 rfl rfl ?_
  refine z_iload dL_law_592 rfl rfl ?_
  refine z_iconst (v := 2) dL_law_594 (by decide) rfl ?_
  refine z_iadd dL_law_595 rfl ?_
  refine z_tp (b := (nI (i + 2))) (by rw [show (2 : Int32) = nI 2 from rfl, nI_add]) ?_
  refine z_sld (X := zl l E F) (vp_in_nI (show i + 2 < eL E by omega) (show eL E < 2 ^ 31 by omega)) dL_law_596 rfl ?_
  refine z_tp (b := (eX E (i + 2))) (by rw [nI_clamp (by omega)]) ?_
  refine z_aload_n dL_law_597 rfl rfl ?_
  refine z_callW (y := mL_begins) (hh := hL_begins) (n := 4) (st := []) (As := [.ref 0, .int (eX E (i + 1)), .int (eX E (i + 2)), .ref 119]) dL_law_598 ml_L_88 cw_L_begins sm_L_begins in_L ⟨by decide, by decide⟩ (by decide +kernel) (Nat.le_of_ble_eq_true rfl) (Nat.le_of_ble_eq_true rfl) rfl (Nat.le_of_ble_eq_true rfl) hcu hsu hM RW_nx (fun v N q => ?_)
  rcases q with ⟨j, N0, hp, r, hN⟩ | ⟨C, hp, r⟩
  · cases r
    subst hN
    obtain ⟨P2, h2, n2, k2⟩ := ki j N0 hp
    refine z_ist5 dL_law_601 (Nat.le_of_ble_eq_true rfl) rfl ?_
    refine z_aload_n dL_law_603 rfl rfl ?_
    refine z_aload_n dL_law_604 rfl rfl ?_
    refine z_iload dL_law_605 rfl rfl ?_
    refine z_iconst (v := 1) dL_law_607 (by decide) rfl ?_
    refine z_iadd dL_law_608 rfl ?_
    refine z_tp (b := (nI (i + 1))) (by rw [show (1 : Int32) = nI 1 from rfl, nI_add]) ?_
    refine z_sld (X := zl l E F) (vp_in_nI (show i + 1 < eL E by omega) (show eL E < 2 ^ 31 by omega)) dL_law_609 rfl ?_
    refine z_tp (b := (eX E (i + 1))) (by rw [nI_clamp (by omega)]) ?_
    refine z_aload_n dL_law_610 rfl rfl ?_
    refine z_iload dL_law_611 rfl rfl ?_
    refine z_iconst (v := 2) dL_law_613 (by decide) rfl ?_
    refine z_iadd dL_law_614 rfl ?_
    refine z_tp (b := (nI (i + 2))) (by rw [show (2 : Int32) = nI 2 from rfl, nI_add]) ?_
    refine z_sld (X := zl l E F) (vp_in_nI (show i + 2 < eL E by omega) (show eL E < 2 ^ 31 by omega)) dL_law_615 rfl ?_
    refine z_tp (b := (eX E (i + 2))) (by rw [nI_clamp (by omega)]) ?_
    refine z_cg2 (ci := 7) (nf := 32) (y := mX7_begins) dL_law_616 ml_L_90 iv_X7_begins (Nat.le_of_ble_eq_true rfl) rfl (by decide) rfl (Nat.le_of_ble_eq_true rfl) hcu hsu h2 n2 rfl (fun v2 N2 w => ?_)
    obtain ⟨rfl, e0, e1, hI⟩ := k2 v2 N2 w
    refine z_ist6 dL_law_619 (Nat.le_of_ble_eq_true rfl) rfl ?_
    refine z_aload_n dL_law_621 rfl rfl ?_
    refine z_cv0 (ci := 7) (nf := 32) (y := mX7_thrown) dL_law_622 ml_L_59 iv_X7_thrown (Nat.le_of_ble_eq_true rfl) rfl (by decide) rfl (Nat.le_of_ble_eq_true rfl) hcu hsu (c_X7_thrown hst N2) rfl ?_
    refine z_tp (b := (0)) e0 ?_
    refine z_iload dL_law_625 rfl rfl ?_
    refine z_icmp_eq (tgt := 632) dL_law_627 (by decide) rfl (fun g => ?_) (fun g => ?_)
    · refine z_iload dL_law_632 rfl rfl ?_
      refine z_if_ne (tgt := 649) dL_law_634 (by decide) rfl (fun g1 => ?_) (fun g1 => ?_)
      · exact absurd rfl g1
      · refine z_aload_n dL_law_637 rfl rfl ?_
        refine z_iconst (v := 0) dL_law_638 (by decide) rfl ?_
        refine z_lald rfl dL_law_639 rfl ?_
        rw [e1]
        refine z_iload dL_law_640 rfl rfl ?_
        refine z_i2l dL_law_642 rfl ?_
        refine z_lcmp dL_law_643 rfl ?_
        refine z_if_eq (tgt := 649) dL_law_644 (by decide) rfl (fun g2 => ?_) (fun g2 => ?_)
        · refine z_goto (tgt := 985) dL_law_649 (by decide) ?_
          exact K _ _ N2 _ _ (Nat.le_refl _) (Nat.le_refl _) hI
        · exact absurd (by unfold lg_cmp; simp) g2
    · exact absurd rfl g
  · cases r
    obtain ⟨P2, h2, n2, k2⟩ := kt C N hp
    refine z_ist5 dL_law_601 (Nat.le_of_ble_eq_true rfl) rfl ?_
    refine z_aload_n dL_law_603 rfl rfl ?_
    refine z_aload_n dL_law_604 rfl rfl ?_
    refine z_iload dL_law_605 rfl rfl ?_
    refine z_iconst (v := 1) dL_law_607 (by decide) rfl ?_
    refine z_iadd dL_law_608 rfl ?_
    refine z_tp (b := (nI (i + 1))) (by rw [show (1 : Int32) = nI 1 from rfl, nI_add]) ?_
    refine z_sld (X := zl l E F) (vp_in_nI (show i + 1 < eL E by omega) (show eL E < 2 ^ 31 by omega)) dL_law_609 rfl ?_
    refine z_tp (b := (eX E (i + 1))) (by rw [nI_clamp (by omega)]) ?_
    refine z_aload_n dL_law_610 rfl rfl ?_
    refine z_iload dL_law_611 rfl rfl ?_
    refine z_iconst (v := 2) dL_law_613 (by decide) rfl ?_
    refine z_iadd dL_law_614 rfl ?_
    refine z_tp (b := (nI (i + 2))) (by rw [show (2 : Int32) = nI 2 from rfl, nI_add]) ?_
    refine z_sld (X := zl l E F) (vp_in_nI (show i + 2 < eL E by omega) (show eL E < 2 ^ 31 by omega)) dL_law_615 rfl ?_
    refine z_tp (b := (eX E (i + 2))) (by rw [nI_clamp (by omega)]) ?_
    refine z_cg2 (ci := 7) (nf := 32) (y := mX7_begins) dL_law_616 ml_L_90 iv_X7_begins (Nat.le_of_ble_eq_true rfl) rfl (by decide) rfl (Nat.le_of_ble_eq_true rfl) hcu hsu h2 n2 rfl (fun v2 N2 w => ?_)
    obtain ⟨⟨j, rfl⟩, e0, hI⟩ := k2 v2 N2 w
    refine z_ist6 dL_law_619 (Nat.le_of_ble_eq_true rfl) rfl ?_
    refine z_aload_n dL_law_621 rfl rfl ?_
    refine z_cv0 (ci := 7) (nf := 32) (y := mX7_thrown) dL_law_622 ml_L_59 iv_X7_thrown (Nat.le_of_ble_eq_true rfl) rfl (by decide) rfl (Nat.le_of_ble_eq_true rfl) hcu hsu (c_X7_thrown hst N2) rfl ?_
    refine z_tp (b := (kL_begins C)) e0 ?_
    refine z_iload dL_law_625 rfl rfl ?_
    refine z_icmp_eq (tgt := 632) dL_law_627 (by decide) rfl (fun g => ?_) (fun g => ?_)
    · refine z_iload dL_law_632 rfl rfl ?_
      refine z_if_ne (tgt := 649) dL_law_634 (by decide) rfl (fun g1 => ?_) (fun g1 => ?_)
      · refine z_goto (tgt := 985) dL_law_649 (by decide) ?_
        exact K _ _ N2 _ _ (Nat.le_refl _) (Nat.le_refl _) hI
      · exact absurd g1 (by unfold kL_begins; split <;> decide)
    · exact absurd rfl g
set_option maxHeartbeats 4000000 in
theorem lw_move {l : Launch} {E : EnT} {F : List Frame → Array Value → State → State → Prop} {M : Mem} {cu su i : Nat} {u5 u6 : Option Value} (hst : l.stackTraces = false) (hcu : cu + 1 ≤ 601024) (hsu : su + 6 ≤ 7293034) (hi : i + 6 ≤ eL E) (hL : eL E ≤ 3072) (op : OpX l E mX6_move mX7_move 6 1 [.int (eX E (i + 1)), .int (eX E (i + 2))] (fun C => C = xIO ∨ C = xIA) kL_move M) (K : ∀ cu2 su2 N v5 v6, cu2 ≤ cu + 1 → su2 ≤ su + 6 → Inv N → Zz (zl l E F) cu2 su2 985 [some (.ref 2000), some (.ref 0), some (.ref 99), some (.ref 119), some (.int (nI i)), v5, v6] [] N) : Zz (zl l E F) cu su 690 [some (.ref 2000), some (.ref 0), some (.ref 99), some (.ref 119), some (.int (nI i)), u5, u6] [] M := by
  obtain ⟨P1, h1, hv, hok, ki, kt⟩ := op
  have hM := c_L_move hst M (eX E (i + 1)) (eX E (i + 2)) h1 hv hok
  refine z_aload_n dL_law_690 rfl rfl ?_
  refine z_aload_n dL_law_691 rfl rfl ?_
  refine z_iload dL_law_692 rfl rfl ?_
  refine z_iconst (v := 1) dL_law_694 (by decide) rfl ?_
  refine z_iadd dL_law_695 rfl ?_
  refine z_tp (b := (nI (i + 1))) (by rw [show (1 : Int32) = nI 1 from rfl, nI_add]) ?_
  refine z_sld (X := zl l E F) (vp_in_nI (show i + 1 < eL E by omega) (show eL E < 2 ^ 31 by omega)) dL_law_696 rfl ?_
  refine z_tp (b := (eX E (i + 1))) (by rw [nI_clamp (by omega)]) ?_
  refine z_aload_n dL_law_697 rfl rfl ?_
  refine z_iload dL_law_698 rfl rfl ?_
  refine z_iconst (v := 2) dL_law_700 (by decide) rfl ?_
  refine z_iadd dL_law_701 rfl ?_
  refine z_tp (b := (nI (i + 2))) (by rw [show (2 : Int32) = nI 2 from rfl, nI_add]) ?_
  refine z_sld (X := zl l E F) (vp_in_nI (show i + 2 < eL E by omega) (show eL E < 2 ^ 31 by omega)) dL_law_702 rfl ?_
  refine z_tp (b := (eX E (i + 2))) (by rw [nI_clamp (by omega)]) ?_
  refine z_aload_n dL_law_703 rfl rfl ?_
  refine z_callW (y := mL_move) (hh := hL_move) (n := 4) (st := []) (As := [.ref 0, .int (eX E (i + 1)), .int (eX E (i + 2)), .ref 119]) dL_law_704 ml_L_99 cw_L_move sm_L_move in_L ⟨by decide, by decide⟩ (by decide +kernel) (Nat.le_of_ble_eq_true rfl) (Nat.le_of_ble_eq_true rfl) rfl (Nat.le_of_ble_eq_true rfl) hcu hsu hM RW_nx (fun v N q => ?_)
  rcases q with ⟨j, N0, hp, r, hN⟩ | ⟨C, hp, r⟩
  · cases r
    subst hN
    obtain ⟨P2, h2, n2, k2⟩ := ki j N0 hp
    refine z_ist5 dL_law_707 (Nat.le_of_ble_eq_true rfl) rfl ?_
    refine z_aload_n dL_law_709 rfl rfl ?_
    refine z_aload_n dL_law_710 rfl rfl ?_
    refine z_iload dL_law_711 rfl rfl ?_
    refine z_iconst (v := 1) dL_law_713 (by decide) rfl ?_
    refine z_iadd dL_law_714 rfl ?_
    refine z_tp (b := (nI (i + 1))) (by rw [show (1 : Int32) = nI 1 from rfl, nI_add]) ?_
    refine z_sld (X := zl l E F) (vp_in_nI (show i + 1 < eL E by omega) (show eL E < 2 ^ 31 by omega)) dL_law_715 rfl ?_
    refine z_tp (b := (eX E (i + 1))) (by rw [nI_clamp (by omega)]) ?_
    refine z_aload_n dL_law_716 rfl rfl ?_
    refine z_iload dL_law_717 rfl rfl ?_
    refine z_iconst (v := 2) dL_law_719 (by decide) rfl ?_
    refine z_iadd dL_law_720 rfl ?_
    refine z_tp (b := (nI (i + 2))) (by rw [show (2 : Int32) = nI 2 from rfl, nI_add]) ?_
    refine z_sld (X := zl l E F) (vp_in_nI (show i + 2 < eL E by omega) (show eL E < 2 ^ 31 by omega)) dL_law_721 rfl ?_
    refine z_tp (b := (eX E (i + 2))) (by rw [nI_clamp (by omega)]) ?_
    refine z_cg2 (ci := 7) (nf := 32) (y := mX7_move) dL_law_722 ml_L_101 iv_X7_move (Nat.le_of_ble_eq_true rfl) rfl (by decide) rfl (Nat.le_of_ble_eq_true rfl) hcu hsu h2 n2 rfl (fun v2 N2 w => ?_)
    obtain ⟨rfl, e0, e1, hI⟩ := k2 v2 N2 w
    refine z_ist6 dL_law_725 (Nat.le_of_ble_eq_true rfl) rfl ?_
    refine z_aload_n dL_law_727 rfl rfl ?_
    refine z_cv0 (ci := 7) (nf := 32) (y := mX7_thrown) dL_law_728 ml_L_59 iv_X7_thrown (Nat.le_of_ble_eq_true rfl) rfl (by decide) rfl (Nat.le_of_ble_eq_true rfl) hcu hsu (c_X7_thrown hst N2) rfl ?_
    refine z_tp (b := (0)) e0 ?_
    refine z_iload dL_law_731 rfl rfl ?_
    refine z_icmp_eq (tgt := 738) dL_law_733 (by decide) rfl (fun g => ?_) (fun g => ?_)
    · refine z_iload dL_law_738 rfl rfl ?_
      refine z_if_ne (tgt := 755) dL_law_740 (by decide) rfl (fun g1 => ?_) (fun g1 => ?_)
      · exact absurd rfl g1
      · refine z_aload_n dL_law_743 rfl rfl ?_
        refine z_iconst (v := 0) dL_law_744 (by decide) rfl ?_
        refine z_lald rfl dL_law_745 rfl ?_
        rw [e1]
        refine z_iload dL_law_746 rfl rfl ?_
        refine z_i2l dL_law_748 rfl ?_
        refine z_lcmp dL_law_749 rfl ?_
        refine z_if_eq (tgt := 755) dL_law_750 (by decide) rfl (fun g2 => ?_) (fun g2 => ?_)
        · refine z_goto (tgt := 985) dL_law_755 (by decide) ?_
          exact K _ _ N2 _ _ (Nat.le_refl _) (Nat.le_refl _) hI
        · exact absurd (by unfold lg_cmp; simp) g2
    · exact absurd rfl g
  · cases r
    obtain ⟨P2, h2, n2, k2⟩ := kt C N hp
    refine z_ist5 dL_law_707 (Nat.le_of_ble_eq_true rfl) rfl ?_
    refine z_aload_n dL_law_709 rfl rfl ?_
    refine z_aload_n dL_law_710 rfl rfl ?_
    refine z_iload dL_law_711 rfl rfl ?_
    refine z_iconst (v := 1) dL_law_713 (by decide) rfl ?_
    refine z_iadd dL_law_714 rfl ?_
    refine z_tp (b := (nI (i + 1))) (by rw [show (1 : Int32) = nI 1 from rfl, nI_add]) ?_
    refine z_sld (X := zl l E F) (vp_in_nI (show i + 1 < eL E by omega) (show eL E < 2 ^ 31 by omega)) dL_law_715 rfl ?_
    refine z_tp (b := (eX E (i + 1))) (by rw [nI_clamp (by omega)]) ?_
    refine z_aload_n dL_law_716 rfl rfl ?_
    refine z_iload dL_law_717 rfl rfl ?_
    refine z_iconst (v := 2) dL_law_719 (by decide) rfl ?_
    refine z_iadd dL_law_720 rfl ?_
    refine z_tp (b := (nI (i + 2))) (by rw [show (2 : Int32) = nI 2 from rfl, nI_add]) ?_
    refine z_sld (X := zl l E F) (vp_in_nI (show i + 2 < eL E by omega) (show eL E < 2 ^ 31 by omega)) dL_law_721 rfl ?_
    refine z_tp (b := (eX E (i + 2))) (by rw [nI_clamp (by omega)]) ?_
    refine z_cg2 (ci := 7) (nf := 32) (y := mX7_move) dL_law_722 ml_L_101 iv_X7_move (Nat.le_of_ble_eq_true rfl) rfl (by decide) rfl (Nat.le_of_ble_eq_true rfl) hcu hsu h2 n2 rfl (fun v2 N2 w => ?_)
    obtain ⟨⟨j, rfl⟩, e0, hI⟩ := k2 v2 N2 w
    refine z_ist6 dL_law_725 (Nat.le_of_ble_eq_true rfl) rfl ?_
    refine z_aload_n dL_law_727 rfl rfl ?_
    refine z_cv0 (ci := 7) (nf := 32) (y := mX7_thrown) dL_law_728 ml_L_59 iv_X7_thrown (Nat.le_of_ble_eq_true rfl) rfl (by decide) rfl (Nat.le_of_ble_eq_true rfl) hcu hsu (c_X7_thrown hst N2) rfl ?_
    refine z_tp (b := (kL_move C)) e0 ?_
    refine z_iload dL_law_731 rfl rfl ?_
    refine z_icmp_eq (tgt := 738) dL_law_733 (by decide) rfl (fun g => ?_) (fun g => ?_)
    · refine z_iload dL_law_738 rfl rfl ?_
      refine z_if_ne (tgt := 755) dL_law_740 (by decide) rfl (fun g1 => ?_) (fun g1 => ?_)
      · refine z_goto (tgt := 985) dL_law_755 (by decide) ?_
        exact K _ _ N2 _ _ (Nat.le_refl _) (Nat.le_refl _) hI
      · exact absurd g1 (by unfold kL_move; split <;> decide)
    · exact absurd rfl g
set_option maxHeartbeats 4000000 in
theorem lw_off {l : Launch} {E : EnT} {F : List Frame → Array Value → State → State → Prop} {M : Mem} {cu su i : Nat} {u5 u6 : Option Value} (hst : l.stackTraces = false) (hcu : cu + 1 ≤ 601024) (hsu : su + 6 ≤ 7293034) (hi : i + 6 ≤ eL E) (hL : eL E ≤ 3072) (op : OpX l E mX6_off mX7_off 6 3 [.int (eX E (i + 1))] (fun C => C = xIA) kL_off M) (K : ∀ cu2 su2 N v5 v6, cu2 ≤ cu + 1 → su2 ≤ su + 6 → Inv N → Zz (zl l E F) cu2 su2 985 [some (.ref 2000), some (.ref 0), some (.ref 99), some (.ref 119), some (.int (nI i)), v5, v6] [] N) : Zz (zl l E F) cu su 784 [some (.ref 2000), some (.ref 0), some (.ref 99), some (.ref 119), some (.int (nI i)), u5, u6] [] M := by
  obtain ⟨P1, h1, hv, hok, ki, kt⟩ := op
  have hM := c_L_off hst M (eX E (i + 1)) h1 hv hok
  refine z_aload_n dL_law_784 rfl rfl ?_
  refine z_aload_n dL_law_785 rfl rfl ?_
  refine z_iload dL_law_786 rfl rfl ?_
  refine z_iconst (v := 1) dL_law_788 (by decide) rfl ?_
  refine z_iadd dL_law_789 rfl ?_
  refine z_tp (b := (nI (i + 1))) (by rw [show (1 : Int32) = nI 1 from rfl, nI_add]) ?_
  refine z_sld (X := zl l E F) (vp_in_nI (show i + 1 < eL E by omega) (show eL E < 2 ^ 31 by omega)) dL_law_790 rfl ?_
  refine z_tp (b := (eX E (i + 1))) (by rw [nI_clamp (by omega)]) ?_
  refine z_aload_n dL_law_791 rfl rfl ?_
  refine z_callW (y := mL_off) (hh := hL_off) (n := 3) (st := []) (As := [.ref 0, .int (eX E (i + 1)), .ref 119]) dL_law_792 ml_L_110 cw_L_off sm_L_off in_L ⟨by decide, by decide⟩ (by decide +kernel) (Nat.le_of_ble_eq_true rfl) (Nat.le_of_ble_eq_true rfl) rfl (Nat.le_of_ble_eq_true rfl) hcu hsu hM RW_nx (fun v N q => ?_)
  rcases q with ⟨j, N0, hp, r, hN⟩ | ⟨C, hp, r⟩
  · cases r
    subst hN
    obtain ⟨P2, h2, n2, k2⟩ := ki j N0 hp
    refine z_ist5 dL_law_795 (Nat.le_of_ble_eq_true rfl) rfl ?_
    refine z_aload_n dL_law_797 rfl rfl ?_
    refine z_aload_n dL_law_798 rfl rfl ?_
    refine z_iload dL_law_799 rfl rfl ?_
    refine z_iconst (v := 1) dL_law_801 (by decide) rfl ?_
    refine z_iadd dL_law_802 rfl ?_
    refine z_tp (b := (nI (i + 1))) (by rw [show (1 : Int32) = nI 1 from rfl, nI_add]) ?_
    refine z_sld (X := zl l E F) (vp_in_nI (show i + 1 < eL E by omega) (show eL E < 2 ^ 31 by omega)) dL_law_803 rfl ?_
    refine z_tp (b := (eX E (i + 1))) (by rw [nI_clamp (by omega)]) ?_
    refine z_cg1 (ci := 7) (nf := 32) (y := mX7_off) dL_law_804 ml_L_112 iv_X7_off (Nat.le_of_ble_eq_true rfl) rfl (by decide) rfl (Nat.le_of_ble_eq_true rfl) hcu hsu h2 n2 rfl (fun v2 N2 w => ?_)
    obtain ⟨rfl, e0, e1, hI⟩ := k2 v2 N2 w
    refine z_ist6 dL_law_807 (Nat.le_of_ble_eq_true rfl) rfl ?_
    refine z_aload_n dL_law_809 rfl rfl ?_
    refine z_cv0 (ci := 7) (nf := 32) (y := mX7_thrown) dL_law_810 ml_L_59 iv_X7_thrown (Nat.le_of_ble_eq_true rfl) rfl (by decide) rfl (Nat.le_of_ble_eq_true rfl) hcu hsu (c_X7_thrown hst N2) rfl ?_
    refine z_tp (b := (0)) e0 ?_
    refine z_iload dL_law_813 rfl rfl ?_
    refine z_icmp_eq (tgt := 820) dL_law_815 (by decide) rfl (fun g => ?_) (fun g => ?_)
    · refine z_iload dL_law_820 rfl rfl ?_
      refine z_if_ne (tgt := 837) dL_law_822 (by decide) rfl (fun g1 => ?_) (fun g1 => ?_)
      · exact absurd rfl g1
      · refine z_aload_n dL_law_825 rfl rfl ?_
        refine z_iconst (v := 0) dL_law_826 (by decide) rfl ?_
        refine z_lald rfl dL_law_827 rfl ?_
        rw [e1]
        refine z_iload dL_law_828 rfl rfl ?_
        refine z_i2l dL_law_830 rfl ?_
        refine z_lcmp dL_law_831 rfl ?_
        refine z_if_eq (tgt := 837) dL_law_832 (by decide) rfl (fun g2 => ?_) (fun g2 => ?_)
        · refine z_goto (tgt := 985) dL_law_837 (by decide) ?_
          exact K _ _ N2 _ _ (Nat.le_refl _) (Nat.le_refl _) hI
        · exact absurd (by unfold lg_cmp; simp) g2
    · exact absurd rfl g
  · cases r
    obtain ⟨P2, h2, n2, k2⟩ := kt C N hp
    refine z_ist5 dL_law_795 (Nat.le_of_ble_eq_true rfl) rfl ?_
    refine z_aload_n dL_law_797 rfl rfl ?_
    refine z_aload_n dL_law_798 rfl rfl ?_
    refine z_iload dL_law_799 rfl rfl ?_
    refine z_iconst (v := 1) dL_law_801 (by decide) rfl ?_
    refine z_iadd dL_law_802 rfl ?_
    refine z_tp (b := (nI (i + 1))) (by rw [show (1 : Int32) = nI 1 from rfl, nI_add]) ?_
    refine z_sld (X := zl l E F) (vp_in_nI (show i + 1 < eL E by omega) (show eL E < 2 ^ 31 by omega)) dL_law_803 rfl ?_
    refine z_tp (b := (eX E (i + 1))) (by rw [nI_clamp (by omega)]) ?_
    refine z_cg1 (ci := 7) (nf := 32) (y := mX7_off) dL_law_804 ml_L_112 iv_X7_off (Nat.le_of_ble_eq_true rfl) rfl (by decide) rfl (Nat.le_of_ble_eq_true rfl) hcu hsu h2 n2 rfl (fun v2 N2 w => ?_)
    obtain ⟨⟨j, rfl⟩, e0, hI⟩ := k2 v2 N2 w
    refine z_ist6 dL_law_807 (Nat.le_of_ble_eq_true rfl) rfl ?_
    refine z_aload_n dL_law_809 rfl rfl ?_
    refine z_cv0 (ci := 7) (nf := 32) (y := mX7_thrown) dL_law_810 ml_L_59 iv_X7_thrown (Nat.le_of_ble_eq_true rfl) rfl (by decide) rfl (Nat.le_of_ble_eq_true rfl) hcu hsu (c_X7_thrown hst N2) rfl ?_
    refine z_tp (b := (kL_off C)) e0 ?_
    refine z_iload dL_law_813 rfl rfl ?_
    refine z_icmp_eq (tgt := 820) dL_law_815 (by decide) rfl (fun g => ?_) (fun g => ?_)
    · refine z_iload dL_law_820 rfl rfl ?_
      refine z_if_ne (tgt := 837) dL_law_822 (by decide) rfl (fun g1 => ?_) (fun g1 => ?_)
      · refine z_goto (tgt := 985) dL_law_837 (by decide) ?_
        exact K _ _ N2 _ _ (Nat.le_refl _) (Nat.le_refl _) hI
      · exact absurd g1 (by unfold kL_off; split <;> decide)
    · exact absurd rfl g
set_option maxHeartbeats 4000000 in
theorem lw_train {l : Launch} {E : EnT} {F : List Frame → Array Value → State → State → Prop} {M : Mem} {cu su i : Nat} {u5 u6 : Option Value} (hst : l.stackTraces = false) (hcu : cu + 1 ≤ 601024) (hsu : su + 6 ≤ 7293034) (hi : i + 6 ≤ eL E) (hL : eL E ≤ 3072) (op : OpX l E mX6_train mX7_train 6 1 [.int (eX E (i + 1))] (fun C => C = xIA) kL_train M) (K : ∀ cu2 su2 N v5 v6, cu2 ≤ cu + 1 → su2 ≤ su + 6 → Inv N → Zz (zl l E F) cu2 su2 985 [some (.ref 2000), some (.ref 0), some (.ref 99), some (.ref 119), some (.int (nI i)), v5, v6] [] N) : Zz (zl l E F) cu su 853 [some (.ref 2000), some (.ref 0), some (.ref 99), some (.ref 119), some (.int (nI i)), u5, u6] [] M := by
  obtain ⟨P1, h1, hv, hok, ki, kt⟩ := op
  have hM := c_L_train hst M (eX E (i + 1)) h1 hv hok
  refine z_aload_n dL_law_853 rfl rfl ?_
  refine z_aload_n dL_law_854 rfl rfl ?_
  refine z_iload dL_law_855 rfl rfl ?_
  refine z_iconst (v := 1) dL_law_857 (by decide) rfl ?_
  refine z_iadd dL_law_858 rfl ?_
  refine z_tp (b := (nI (i + 1))) (by rw [show (1 : Int32) = nI 1 from rfl, nI_add]) ?_
  refine z_sld (X := zl l E F) (vp_in_nI (show i + 1 < eL E by omega) (show eL E < 2 ^ 31 by omega)) dL_law_859 rfl ?_
  refine z_tp (b := (eX E (i + 1))) (by rw [nI_clamp (by omega)]) ?_
  refine z_aload_n dL_law_860 rfl rfl ?_
  refine z_callW (y := mL_train) (hh := hL_train) (n := 3) (st := []) (As := [.ref 0, .int (eX E (i + 1)), .ref 119]) dL_law_861 ml_L_117 cw_L_train sm_L_train in_L ⟨by decide, by decide⟩ (by decide +kernel) (Nat.le_of_ble_eq_true rfl) (Nat.le_of_ble_eq_true rfl) rfl (Nat.le_of_ble_eq_true rfl) hcu hsu hM RW_nx (fun v N q => ?_)
  rcases q with ⟨j, N0, hp, r, hN⟩ | ⟨C, hp, r⟩
  · cases r
    subst hN
    obtain ⟨P2, h2, n2, k2⟩ := ki j N0 hp
    refine z_ist5 dL_law_864 (Nat.le_of_ble_eq_true rfl) rfl ?_
    refine z_aload_n dL_law_866 rfl rfl ?_
    refine z_aload_n dL_law_867 rfl rfl ?_
    refine z_iload dL_law_868 rfl rfl ?_
    refine z_iconst (v := 1) dL_law_870 (by decide) rfl ?_
    refine z_iadd dL_law_871 rfl ?_
    refine z_tp (b := (nI (i + 1))) (by rw [show (1 : Int32) = nI 1 from rfl, nI_add]) ?_
    refine z_sld (X := zl l E F) (vp_in_nI (show i + 1 < eL E by omega) (show eL E < 2 ^ 31 by omega)) dL_law_872 rfl ?_
    refine z_tp (b := (eX E (i + 1))) (by rw [nI_clamp (by omega)]) ?_
    refine z_cg1 (ci := 7) (nf := 32) (y := mX7_train) dL_law_873 ml_L_119 iv_X7_train (Nat.le_of_ble_eq_true rfl) rfl (by decide) rfl (Nat.le_of_ble_eq_true rfl) hcu hsu h2 n2 rfl (fun v2 N2 w => ?_)
    obtain ⟨rfl, e0, e1, hI⟩ := k2 v2 N2 w
    refine z_ist6 dL_law_876 (Nat.le_of_ble_eq_true rfl) rfl ?_
    refine z_aload_n dL_law_878 rfl rfl ?_
    refine z_cv0 (ci := 7) (nf := 32) (y := mX7_thrown) dL_law_879 ml_L_59 iv_X7_thrown (Nat.le_of_ble_eq_true rfl) rfl (by decide) rfl (Nat.le_of_ble_eq_true rfl) hcu hsu (c_X7_thrown hst N2) rfl ?_
    refine z_tp (b := (0)) e0 ?_
    refine z_iload dL_law_882 rfl rfl ?_
    refine z_icmp_eq (tgt := 889) dL_law_884 (by decide) rfl (fun g => ?_) (fun g => ?_)
    · refine z_iload dL_law_889 rfl rfl ?_
      refine z_if_ne (tgt := 906) dL_law_891 (by decide) rfl (fun g1 => ?_) (fun g1 => ?_)
      · exact absurd rfl g1
      · refine z_aload_n dL_law_894 rfl rfl ?_
        refine z_iconst (v := 0) dL_law_895 (by decide) rfl ?_
        refine z_lald rfl dL_law_896 rfl ?_
        rw [e1]
        refine z_iload dL_law_897 rfl rfl ?_
        refine z_i2l dL_law_899 rfl ?_
        refine z_lcmp dL_law_900 rfl ?_
        refine z_if_eq (tgt := 906) dL_law_901 (by decide) rfl (fun g2 => ?_) (fun g2 => ?_)
        · refine z_goto (tgt := 985) dL_law_906 (by decide) ?_
          exact K _ _ N2 _ _ (Nat.le_refl _) (Nat.le_refl _) hI
        · exact absurd (by unfold lg_cmp; simp) g2
    · exact absurd rfl g
  · cases r
    obtain ⟨P2, h2, n2, k2⟩ := kt C N hp
    refine z_ist5 dL_law_864 (Nat.le_of_ble_eq_true rfl) rfl ?_
    refine z_aload_n dL_law_866 rfl rfl ?_
    refine z_aload_n dL_law_867 rfl rfl ?_
    refine z_iload dL_law_868 rfl rfl ?_
    refine z_iconst (v := 1) dL_law_870 (by decide) rfl ?_
    refine z_iadd dL_law_871 rfl ?_
    refine z_tp (b := (nI (i + 1))) (by rw [show (1 : Int32) = nI 1 from rfl, nI_add]) ?_
    refine z_sld (X := zl l E F) (vp_in_nI (show i + 1 < eL E by omega) (show eL E < 2 ^ 31 by omega)) dL_law_872 rfl ?_
    refine z_tp (b := (eX E (i + 1))) (by rw [nI_clamp (by omega)]) ?_
    refine z_cg1 (ci := 7) (nf := 32) (y := mX7_train) dL_law_873 ml_L_119 iv_X7_train (Nat.le_of_ble_eq_true rfl) rfl (by decide) rfl (Nat.le_of_ble_eq_true rfl) hcu hsu h2 n2 rfl (fun v2 N2 w => ?_)
    obtain ⟨⟨j, rfl⟩, e0, hI⟩ := k2 v2 N2 w
    refine z_ist6 dL_law_876 (Nat.le_of_ble_eq_true rfl) rfl ?_
    refine z_aload_n dL_law_878 rfl rfl ?_
    refine z_cv0 (ci := 7) (nf := 32) (y := mX7_thrown) dL_law_879 ml_L_59 iv_X7_thrown (Nat.le_of_ble_eq_true rfl) rfl (by decide) rfl (Nat.le_of_ble_eq_true rfl) hcu hsu (c_X7_thrown hst N2) rfl ?_
    refine z_tp (b := (kL_train C)) e0 ?_
    refine z_iload dL_law_882 rfl rfl ?_
    refine z_icmp_eq (tgt := 889) dL_law_884 (by decide) rfl (fun g => ?_) (fun g => ?_)
    · refine z_iload dL_law_889 rfl rfl ?_
      refine z_if_ne (tgt := 906) dL_law_891 (by decide) rfl (fun g1 => ?_) (fun g1 => ?_)
      · refine z_goto (tgt := 985) dL_law_906 (by decide) ?_
        exact K _ _ N2 _ _ (Nat.le_refl _) (Nat.le_refl _) hI
      · exact absurd g1 (by unfold kL_train; split <;> decide)
    · exact absurd rfl g
