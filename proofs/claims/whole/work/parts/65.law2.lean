/-! ===== the law: a call of each kind ===== -/
set_option maxRecDepth 100000 in
set_option maxHeartbeats 4000000 in
theorem lc_2 {l : Launch} {nm : String} {g : ab_G} {b N ax am t r : Nat} {xs : Nat → Int32} {M : ab_M} (hN : N ≤ 3584) (ht : 7 * t + 7 ≤ N) (hJ : JS g M ax am t) (kk : ∀ M', JS g M' ax am ((t : Int) + 1) → AW l g (XL g b N xs) ZL (YL nm) 13 482 (3 * r) (33 * r) 901 [some (.ref b), some (.ref ax), some (.ref am), some (.int (nI (7 * t)))] [] M') : AW l g (XL g b N xs) ZL (YL nm) 13 482 (3 * r + 3) (33 * r + 33) 234 [some (.ref b), some (.ref ax), some (.ref am), some (.int (nI (7 * t)))] [] M := by
  obtain ⟨α, ρ, nf, nj, nm, σ, κ, rfl, hC, hR, hS⟩ := hJ
  have hct : (t : Int) ≤ 1000 := by omega
  have i1 : vp_in (nI (7 * t) + 1) N := idx7 ht hN (k := 1) (by omega)
  have i2 : vp_in (nI (7 * t) + 2) N := idx7 ht hN (k := 2) (by omega)
  have i3 : vp_in (nI (7 * t) + 3) N := idx7 ht hN (k := 3) (by omega)
  have i4 : vp_in (nI (7 * t) + 4) N := idx7 ht hN (k := 4) (by omega)
  have i5 : vp_in (nI (7 * t) + 5) N := idx7 ht hN (k := 5) (by omega)
  have i6 : vp_in (nI (7 * t) + 6) N := idx7 ht hN (k := 6) (by omega)
  have hb := hS.1.2.2.1.1
  refine aw_aload_n dL_law_234 rfl ?_
  refine aw_aload_n dL_law_235 rfl ?_
  refine aw_iload_n dL_law_236 rfl ?_
  refine aw_iconst (v := 1) dL_law_237 (by decide) ?_
  refine aw_iadd dL_law_238 ?_
  refine aw_sld dL_law_239 (by assumption) ?_
  refine aw_aload_n dL_law_240 rfl ?_
  refine aw_iload_n dL_law_241 rfl ?_
  refine aw_iconst (v := 2) dL_law_242 (by decide) ?_
  refine aw_iadd dL_law_243 ?_
  refine aw_sld dL_law_244 (by assumption) ?_
  refine aw_V2i (kc' := 3 * r) (ks' := 33 * r) dL_law_245 cs_L_23_9 hC.1 (c_drinks hC hS.1.2.2.1.z) (ab_fit_mk (Nat.le_of_ble_eq_true rfl) (Nat.le_of_ble_eq_true rfl) (by omega) (by omega)) (Nat.le_of_ble_eq_true rfl) (fun x245 M245 h245 => ?_)
  obtain ⟨e245, hC, hKH⟩ := h245
  replace hR := hR.kh hKH
  refine aw_aload_n dL_law_248 rfl ?_
  refine aw_aload_n dL_law_249 rfl ?_
  refine aw_iload_n dL_law_250 rfl ?_
  refine aw_iconst (v := 1) dL_law_251 (by decide) ?_
  refine aw_iadd dL_law_252 ?_
  refine aw_sld dL_law_253 (by assumption) ?_
  refine aw_aload_n dL_law_254 rfl ?_
  refine aw_iload_n dL_law_255 rfl ?_
  refine aw_iconst (v := 2) dL_law_256 (by decide) ?_
  refine aw_iadd dL_law_257 ?_
  refine aw_sld dL_law_258 (by assumption) ?_
  refine aw_V2i (kc' := 3 * r) (ks' := 33 * r) dL_law_259 cs_L_27_10 hR.1 (r_drinks hR hS.1.2.1.1) (ab_fit_mk (Nat.le_of_ble_eq_true rfl) (Nat.le_of_ble_eq_true rfl) (by omega) (by omega)) (Nat.le_of_ble_eq_true rfl) (fun x259 M259 h259 => ?_)
  obtain ⟨e259, hR, hKR⟩ := h259
  replace hC := hC.kr hKR
  have hJ9 : JS g M259 (α 0 0) am ((t : Int) + 1) := ⟨α, ρ, nf, nj, nm, _, _, rfl, hC, hR, (s_drinks hS).2⟩
  refine aw_icmp_eq (tgt := 901) dL_law_262 (by decide) (fun h262 => ?_) (fun h262 => absurd (by rw [e245, e259]; exact (s_drinks hS).1) h262)
  exact kk _ hJ9
set_option maxRecDepth 100000 in
set_option maxHeartbeats 4000000 in
theorem lc_4 {l : Launch} {nm : String} {g : ab_G} {b N ax am t r : Nat} {xs : Nat → Int32} {M : ab_M} (hN : N ≤ 3584) (ht : 7 * t + 7 ≤ N) (hJ : JS g M ax am t) (kk : ∀ M', JS g M' ax am ((t : Int) + 1) → AW l g (XL g b N xs) ZL (YL nm) 13 482 (3 * r) (33 * r) 901 [some (.ref b), some (.ref ax), some (.ref am), some (.int (nI (7 * t)))] [] M') : AW l g (XL g b N xs) ZL (YL nm) 13 482 (3 * r + 3) (33 * r + 33) 320 [some (.ref b), some (.ref ax), some (.ref am), some (.int (nI (7 * t)))] [] M := by
  obtain ⟨α, ρ, nf, nj, nm, σ, κ, rfl, hC, hR, hS⟩ := hJ
  have hct : (t : Int) ≤ 1000 := by omega
  have i1 : vp_in (nI (7 * t) + 1) N := idx7 ht hN (k := 1) (by omega)
  have i2 : vp_in (nI (7 * t) + 2) N := idx7 ht hN (k := 2) (by omega)
  have i3 : vp_in (nI (7 * t) + 3) N := idx7 ht hN (k := 3) (by omega)
  have i4 : vp_in (nI (7 * t) + 4) N := idx7 ht hN (k := 4) (by omega)
  have i5 : vp_in (nI (7 * t) + 5) N := idx7 ht hN (k := 5) (by omega)
  have i6 : vp_in (nI (7 * t) + 6) N := idx7 ht hN (k := 6) (by omega)
  have hb := hS.1.2.2.1.1
  refine aw_aload_n dL_law_320 rfl ?_
  refine aw_aload_n dL_law_321 rfl ?_
  refine aw_iload_n dL_law_322 rfl ?_
  refine aw_iconst (v := 1) dL_law_323 (by decide) ?_
  refine aw_iadd dL_law_324 ?_
  refine aw_sld dL_law_325 (by assumption) ?_
  refine aw_aload_n dL_law_326 rfl ?_
  refine aw_iload_n dL_law_327 rfl ?_
  refine aw_iconst (v := 2) dL_law_328 (by decide) ?_
  refine aw_iadd dL_law_329 ?_
  refine aw_sld dL_law_330 (by assumption) ?_
  refine aw_V2i (kc' := 3 * r) (ks' := 33 * r) dL_law_331 cs_L_33_9 hC.1 (c_right hC hS.1.2.2.1.z) (ab_fit_mk (Nat.le_of_ble_eq_true rfl) (Nat.le_of_ble_eq_true rfl) (by omega) (by omega)) (Nat.le_of_ble_eq_true rfl) (fun x331 M331 h331 => ?_)
  obtain ⟨e331, hC, hKH⟩ := h331
  replace hR := hR.kh hKH
  refine aw_aload_n dL_law_334 rfl ?_
  refine aw_aload_n dL_law_335 rfl ?_
  refine aw_iload_n dL_law_336 rfl ?_
  refine aw_iconst (v := 1) dL_law_337 (by decide) ?_
  refine aw_iadd dL_law_338 ?_
  refine aw_sld dL_law_339 (by assumption) ?_
  refine aw_aload_n dL_law_340 rfl ?_
  refine aw_iload_n dL_law_341 rfl ?_
  refine aw_iconst (v := 2) dL_law_342 (by decide) ?_
  refine aw_iadd dL_law_343 ?_
  refine aw_sld dL_law_344 (by assumption) ?_
  refine aw_V2i (kc' := 3 * r) (ks' := 33 * r) dL_law_345 cs_L_36_10 hR.1 (r_right hR hS.1.2.1.1) (ab_fit_mk (Nat.le_of_ble_eq_true rfl) (Nat.le_of_ble_eq_true rfl) (by omega) (by omega)) (Nat.le_of_ble_eq_true rfl) (fun x345 M345 h345 => ?_)
  obtain ⟨e345, hR, hKR⟩ := h345
  replace hC := hC.kr hKR
  have hJ9 : JS g M345 (α 0 0) am ((t : Int) + 1) := ⟨α, ρ, nf, nj, nm, _, _, rfl, hC, hR, (s_right hS).2⟩
  refine aw_icmp_eq (tgt := 901) dL_law_348 (by decide) (fun h348 => ?_) (fun h348 => absurd (by rw [e331, e345]; exact (s_right hS).1) h348)
  exact kk _ hJ9
set_option maxRecDepth 100000 in
set_option maxHeartbeats 4000000 in
theorem lc_5 {l : Launch} {nm : String} {g : ab_G} {b N ax am t r : Nat} {xs : Nat → Int32} {M : ab_M} (hN : N ≤ 3584) (ht : 7 * t + 7 ≤ N) (hJ : JS g M ax am t) (kk : ∀ M', JS g M' ax am ((t : Int) + 1) → AW l g (XL g b N xs) ZL (YL nm) 13 482 (3 * r) (33 * r) 901 [some (.ref b), some (.ref ax), some (.ref am), some (.int (nI (7 * t)))] [] M') : AW l g (XL g b N xs) ZL (YL nm) 13 482 (3 * r + 3) (33 * r + 33) 353 [some (.ref b), some (.ref ax), some (.ref am), some (.int (nI (7 * t)))] [] M := by
  obtain ⟨α, ρ, nf, nj, nm, σ, κ, rfl, hC, hR, hS⟩ := hJ
  have hct : (t : Int) ≤ 1000 := by omega
  have i1 : vp_in (nI (7 * t) + 1) N := idx7 ht hN (k := 1) (by omega)
  have i2 : vp_in (nI (7 * t) + 2) N := idx7 ht hN (k := 2) (by omega)
  have i3 : vp_in (nI (7 * t) + 3) N := idx7 ht hN (k := 3) (by omega)
  have i4 : vp_in (nI (7 * t) + 4) N := idx7 ht hN (k := 4) (by omega)
  have i5 : vp_in (nI (7 * t) + 5) N := idx7 ht hN (k := 5) (by omega)
  have i6 : vp_in (nI (7 * t) + 6) N := idx7 ht hN (k := 6) (by omega)
  have hb := hS.1.2.2.1.1
  refine aw_aload_n dL_law_353 rfl ?_
  refine aw_aload_n dL_law_354 rfl ?_
  refine aw_iload_n dL_law_355 rfl ?_
  refine aw_iconst (v := 1) dL_law_356 (by decide) ?_
  refine aw_iadd dL_law_357 ?_
  refine aw_sld dL_law_358 (by assumption) ?_
  refine aw_aload_n dL_law_359 rfl ?_
  refine aw_iload_n dL_law_360 rfl ?_
  refine aw_iconst (v := 2) dL_law_361 (by decide) ?_
  refine aw_iadd dL_law_362 ?_
  refine aw_sld dL_law_363 (by assumption) ?_
  refine aw_V2i (kc' := 3 * r) (ks' := 33 * r) dL_law_364 cs_L_37_9 hC.1 (c_pace hC hS.1.2.2.1.z) (ab_fit_mk (Nat.le_of_ble_eq_true rfl) (Nat.le_of_ble_eq_true rfl) (by omega) (by omega)) (Nat.le_of_ble_eq_true rfl) (fun x364 M364 h364 => ?_)
  obtain ⟨e364, hC, hKH⟩ := h364
  replace hR := hR.kh hKH
  refine aw_aload_n dL_law_367 rfl ?_
  refine aw_aload_n dL_law_368 rfl ?_
  refine aw_iload_n dL_law_369 rfl ?_
  refine aw_iconst (v := 1) dL_law_370 (by decide) ?_
  refine aw_iadd dL_law_371 ?_
  refine aw_sld dL_law_372 (by assumption) ?_
  refine aw_aload_n dL_law_373 rfl ?_
  refine aw_iload_n dL_law_374 rfl ?_
  refine aw_iconst (v := 2) dL_law_375 (by decide) ?_
  refine aw_iadd dL_law_376 ?_
  refine aw_sld dL_law_377 (by assumption) ?_
  refine aw_V2i (kc' := 3 * r) (ks' := 33 * r) dL_law_378 cs_L_40_10 hR.1 (r_pace hR hS.1.2.1.1) (ab_fit_mk (Nat.le_of_ble_eq_true rfl) (Nat.le_of_ble_eq_true rfl) (by omega) (by omega)) (Nat.le_of_ble_eq_true rfl) (fun x378 M378 h378 => ?_)
  obtain ⟨e378, hR, hKR⟩ := h378
  replace hC := hC.kr hKR
  have hJ9 : JS g M378 (α 0 0) am ((t : Int) + 1) := ⟨α, ρ, nf, nj, nm, _, _, rfl, hC, hR, (s_pace hS).2⟩
  refine aw_icmp_eq (tgt := 901) dL_law_381 (by decide) (fun h381 => ?_) (fun h381 => absurd (by rw [e364, e378]; exact (s_pace hS).1) h381)
  exact kk _ hJ9
set_option maxRecDepth 100000 in
set_option maxHeartbeats 4000000 in
theorem lc_8 {l : Launch} {nm : String} {g : ab_G} {b N ax am t r : Nat} {xs : Nat → Int32} {M : ab_M} (hN : N ≤ 3584) (ht : 7 * t + 7 ≤ N) (hJ : JS g M ax am t) (kk : ∀ M', JS g M' ax am ((t : Int) + 1) → AW l g (XL g b N xs) ZL (YL nm) 13 482 (3 * r) (33 * r) 901 [some (.ref b), some (.ref ax), some (.ref am), some (.int (nI (7 * t)))] [] M') : AW l g (XL g b N xs) ZL (YL nm) 13 482 (3 * r + 3) (33 * r + 33) 478 [some (.ref b), some (.ref ax), some (.ref am), some (.int (nI (7 * t)))] [] M := by
  obtain ⟨α, ρ, nf, nj, nm, σ, κ, rfl, hC, hR, hS⟩ := hJ
  have hct : (t : Int) ≤ 1000 := by omega
  have i1 : vp_in (nI (7 * t) + 1) N := idx7 ht hN (k := 1) (by omega)
  have i2 : vp_in (nI (7 * t) + 2) N := idx7 ht hN (k := 2) (by omega)
  have i3 : vp_in (nI (7 * t) + 3) N := idx7 ht hN (k := 3) (by omega)
  have i4 : vp_in (nI (7 * t) + 4) N := idx7 ht hN (k := 4) (by omega)
  have i5 : vp_in (nI (7 * t) + 5) N := idx7 ht hN (k := 5) (by omega)
  have i6 : vp_in (nI (7 * t) + 6) N := idx7 ht hN (k := 6) (by omega)
  have hb := hS.1.2.2.1.1
  refine aw_aload_n dL_law_478 rfl ?_
  refine aw_aload_n dL_law_479 rfl ?_
  refine aw_iload_n dL_law_480 rfl ?_
  refine aw_iconst (v := 1) dL_law_481 (by decide) ?_
  refine aw_iadd dL_law_482 ?_
  refine aw_sld dL_law_483 (by assumption) ?_
  refine aw_V1i (kc' := 3 * r) (ks' := 33 * r) dL_law_484 cs_L_51_9 hC.1 (c_drought hC hS.1.2.2.1.z) (ab_fit_mk (Nat.le_of_ble_eq_true rfl) (Nat.le_of_ble_eq_true rfl) (by omega) (by omega)) (Nat.le_of_ble_eq_true rfl) (fun x484 M484 h484 => ?_)
  obtain ⟨e484, hC, hKH⟩ := h484
  replace hR := hR.kh hKH
  refine aw_aload_n dL_law_487 rfl ?_
  refine aw_aload_n dL_law_488 rfl ?_
  refine aw_iload_n dL_law_489 rfl ?_
  refine aw_iconst (v := 1) dL_law_490 (by decide) ?_
  refine aw_iadd dL_law_491 ?_
  refine aw_sld dL_law_492 (by assumption) ?_
  refine aw_V1i (kc' := 3 * r) (ks' := 33 * r) dL_law_493 cs_L_54_10 hR.1 (r_drought hR hS.1.2.1.1) (ab_fit_mk (Nat.le_of_ble_eq_true rfl) (Nat.le_of_ble_eq_true rfl) (by omega) (by omega)) (Nat.le_of_ble_eq_true rfl) (fun x493 M493 h493 => ?_)
  obtain ⟨e493, hR, hKR⟩ := h493
  replace hC := hC.kr hKR
  have hJ9 : JS g M493 (α 0 0) am ((t : Int) + 1) := ⟨α, ρ, nf, nj, nm, _, _, rfl, hC, hR, (s_drought hS).2⟩
  refine aw_icmp_eq (tgt := 901) dL_law_496 (by decide) (fun h496 => ?_) (fun h496 => absurd (by rw [e484, e493]; exact (s_drought hS).1) h496)
  exact kk _ hJ9
set_option maxRecDepth 100000 in
set_option maxHeartbeats 4000000 in
theorem lc_11 {l : Launch} {nm : String} {g : ab_G} {b N ax am t r : Nat} {xs : Nat → Int32} {M : ab_M} (hN : N ≤ 3584) (ht : 7 * t + 7 ≤ N) (hJ : JS g M ax am t) (kk : ∀ M', JS g M' ax am ((t : Int) + 1) → AW l g (XL g b N xs) ZL (YL nm) 13 482 (3 * r) (33 * r) 901 [some (.ref b), some (.ref ax), some (.ref am), some (.int (nI (7 * t)))] [] M') : AW l g (XL g b N xs) ZL (YL nm) 13 482 (3 * r + 3) (33 * r + 33) 577 [some (.ref b), some (.ref ax), some (.ref am), some (.int (nI (7 * t)))] [] M := by
  obtain ⟨α, ρ, nf, nj, nm, σ, κ, rfl, hC, hR, hS⟩ := hJ
  have hct : (t : Int) ≤ 1000 := by omega
  have i1 : vp_in (nI (7 * t) + 1) N := idx7 ht hN (k := 1) (by omega)
  have i2 : vp_in (nI (7 * t) + 2) N := idx7 ht hN (k := 2) (by omega)
  have i3 : vp_in (nI (7 * t) + 3) N := idx7 ht hN (k := 3) (by omega)
  have i4 : vp_in (nI (7 * t) + 4) N := idx7 ht hN (k := 4) (by omega)
  have i5 : vp_in (nI (7 * t) + 5) N := idx7 ht hN (k := 5) (by omega)
  have i6 : vp_in (nI (7 * t) + 6) N := idx7 ht hN (k := 6) (by omega)
  have hb := hS.1.2.2.1.1
  refine aw_aload_n dL_law_577 rfl ?_
  refine aw_aload_n dL_law_578 rfl ?_
  refine aw_iload_n dL_law_579 rfl ?_
  refine aw_iconst (v := 1) dL_law_580 (by decide) ?_
  refine aw_iadd dL_law_581 ?_
  refine aw_sld dL_law_582 (by assumption) ?_
  refine aw_V1i (kc' := 3 * r) (ks' := 33 * r) dL_law_583 cs_L_67_9 hC.1 (c_fare hC hS.1.2.2.1.z) (ab_fit_mk (Nat.le_of_ble_eq_true rfl) (Nat.le_of_ble_eq_true rfl) (by omega) (by omega)) (Nat.le_of_ble_eq_true rfl) (fun x583 M583 h583 => ?_)
  obtain ⟨e583, em583⟩ := h583
  replace em583 := em583.symm
  subst em583
  refine aw_aload_n dL_law_586 rfl ?_
  refine aw_aload_n dL_law_587 rfl ?_
  refine aw_iload_n dL_law_588 rfl ?_
  refine aw_iconst (v := 1) dL_law_589 (by decide) ?_
  refine aw_iadd dL_law_590 ?_
  refine aw_sld dL_law_591 (by assumption) ?_
  refine aw_V1i (kc' := 3 * r) (ks' := 33 * r) dL_law_592 cs_L_70_10 hR.1 (r_fare hR hS.1.2.1.1) (ab_fit_mk (Nat.le_of_ble_eq_true rfl) (Nat.le_of_ble_eq_true rfl) (by omega) (by omega)) (Nat.le_of_ble_eq_true rfl) (fun x592 M592 h592 => ?_)
  obtain ⟨e592, em592⟩ := h592
  replace em592 := em592.symm
  subst em592
  have hJ9 : JS g M (α 0 0) am ((t : Int) + 1) := ⟨α, ρ, nf, nj, nm, σ, κ, rfl, hC, hR, hS.up⟩
  refine aw_icmp_eq (tgt := 901) dL_law_595 (by decide) (fun h595 => ?_) (fun h595 => absurd (by rw [e583, e592]; exact s_fare hS) h595)
  exact kk _ hJ9
set_option maxRecDepth 100000 in
set_option maxHeartbeats 4000000 in
theorem lc_14 {l : Launch} {nm : String} {g : ab_G} {b N ax am t r : Nat} {xs : Nat → Int32} {M : ab_M} (hN : N ≤ 3584) (ht : 7 * t + 7 ≤ N) (hJ : JS g M ax am t) (kk : ∀ M', JS g M' ax am ((t : Int) + 1) → AW l g (XL g b N xs) ZL (YL nm) 13 482 (3 * r) (33 * r) 901 [some (.ref b), some (.ref ax), some (.ref am), some (.int (nI (7 * t)))] [] M') : AW l g (XL g b N xs) ZL (YL nm) 13 482 (3 * r + 3) (33 * r + 33) 656 [some (.ref b), some (.ref ax), some (.ref am), some (.int (nI (7 * t)))] [] M := by
  obtain ⟨α, ρ, nf, nj, nm, σ, κ, rfl, hC, hR, hS⟩ := hJ
  have hct : (t : Int) ≤ 1000 := by omega
  have i1 : vp_in (nI (7 * t) + 1) N := idx7 ht hN (k := 1) (by omega)
  have i2 : vp_in (nI (7 * t) + 2) N := idx7 ht hN (k := 2) (by omega)
  have i3 : vp_in (nI (7 * t) + 3) N := idx7 ht hN (k := 3) (by omega)
  have i4 : vp_in (nI (7 * t) + 4) N := idx7 ht hN (k := 4) (by omega)
  have i5 : vp_in (nI (7 * t) + 5) N := idx7 ht hN (k := 5) (by omega)
  have i6 : vp_in (nI (7 * t) + 6) N := idx7 ht hN (k := 6) (by omega)
  have hb := hS.1.2.2.1.1
  refine aw_aload_n dL_law_656 rfl ?_
  refine aw_aload_n dL_law_657 rfl ?_
  refine aw_iload_n dL_law_658 rfl ?_
  refine aw_iconst (v := 1) dL_law_659 (by decide) ?_
  refine aw_iadd dL_law_660 ?_
  refine aw_sld dL_law_661 (by assumption) ?_
  refine aw_aload_n dL_law_662 rfl ?_
  refine aw_iload_n dL_law_663 rfl ?_
  refine aw_iconst (v := 2) dL_law_664 (by decide) ?_
  refine aw_iadd dL_law_665 ?_
  refine aw_sld dL_law_666 (by assumption) ?_
  refine aw_V2i (kc' := 3 * r) (ks' := 33 * r) dL_law_667 cs_L_79_9 hC.1 (c_water hC hS.1.2.2.1.z) (ab_fit_mk (Nat.le_of_ble_eq_true rfl) (Nat.le_of_ble_eq_true rfl) (by omega) (by omega)) (Nat.le_of_ble_eq_true rfl) (fun x667 M667 h667 => ?_)
  obtain ⟨e667, em667⟩ := h667
  replace em667 := em667.symm
  subst em667
  refine aw_aload_n dL_law_670 rfl ?_
  refine aw_aload_n dL_law_671 rfl ?_
  refine aw_iload_n dL_law_672 rfl ?_
  refine aw_iconst (v := 1) dL_law_673 (by decide) ?_
  refine aw_iadd dL_law_674 ?_
  refine aw_sld dL_law_675 (by assumption) ?_
  refine aw_aload_n dL_law_676 rfl ?_
  refine aw_iload_n dL_law_677 rfl ?_
  refine aw_iconst (v := 2) dL_law_678 (by decide) ?_
  refine aw_iadd dL_law_679 ?_
  refine aw_sld dL_law_680 (by assumption) ?_
  refine aw_V2i (kc' := 3 * r) (ks' := 33 * r) dL_law_681 cs_L_82_10 hR.1 (r_water hR hS.1.2.1.1) (ab_fit_mk (Nat.le_of_ble_eq_true rfl) (Nat.le_of_ble_eq_true rfl) (by omega) (by omega)) (Nat.le_of_ble_eq_true rfl) (fun x681 M681 h681 => ?_)
  obtain ⟨e681, em681⟩ := h681
  replace em681 := em681.symm
  subst em681
  have hJ9 : JS g M (α 0 0) am ((t : Int) + 1) := ⟨α, ρ, nf, nj, nm, σ, κ, rfl, hC, hR, hS.up⟩
  refine aw_icmp_eq (tgt := 901) dL_law_684 (by decide) (fun h684 => ?_) (fun h684 => absurd (by rw [e667, e681]; exact s_water hS) h684)
  exact kk _ hJ9
set_option maxRecDepth 100000 in
set_option maxHeartbeats 4000000 in
theorem lc_20 {l : Launch} {nm : String} {g : ab_G} {b N ax am t r : Nat} {xs : Nat → Int32} {M : ab_M} (hN : N ≤ 3584) (ht : 7 * t + 7 ≤ N) (hJ : JS g M ax am t) (kk : ∀ M', JS g M' ax am ((t : Int) + 1) → AW l g (XL g b N xs) ZL (YL nm) 13 482 (3 * r) (33 * r) 901 [some (.ref b), some (.ref ax), some (.ref am), some (.int (nI (7 * t)))] [] M') : AW l g (XL g b N xs) ZL (YL nm) 13 482 (3 * r + 3) (33 * r + 33) 855 [some (.ref b), some (.ref ax), some (.ref am), some (.int (nI (7 * t)))] [] M := by
  obtain ⟨α, ρ, nf, nj, nm, σ, κ, rfl, hC, hR, hS⟩ := hJ
  have hct : (t : Int) ≤ 1000 := by omega
  have i1 : vp_in (nI (7 * t) + 1) N := idx7 ht hN (k := 1) (by omega)
  have i2 : vp_in (nI (7 * t) + 2) N := idx7 ht hN (k := 2) (by omega)
  have i3 : vp_in (nI (7 * t) + 3) N := idx7 ht hN (k := 3) (by omega)
  have i4 : vp_in (nI (7 * t) + 4) N := idx7 ht hN (k := 4) (by omega)
  have i5 : vp_in (nI (7 * t) + 5) N := idx7 ht hN (k := 5) (by omega)
  have i6 : vp_in (nI (7 * t) + 6) N := idx7 ht hN (k := 6) (by omega)
  have hb := hS.1.2.2.1.1
  refine aw_aload_n dL_law_855 rfl ?_
  refine aw_aload_n dL_law_856 rfl ?_
  refine aw_iload_n dL_law_857 rfl ?_
  refine aw_iconst (v := 1) dL_law_858 (by decide) ?_
  refine aw_iadd dL_law_859 ?_
  refine aw_sld dL_law_860 (by assumption) ?_
  refine aw_V1i (kc' := 3 * r) (ks' := 33 * r) dL_law_861 cs_L_104_9 hC.1 (c_given hC hS.1.2.2.1.z) (ab_fit_mk (Nat.le_of_ble_eq_true rfl) (Nat.le_of_ble_eq_true rfl) (by omega) (by omega)) (Nat.le_of_ble_eq_true rfl) (fun x861 M861 h861 => ?_)
  obtain ⟨e861, em861⟩ := h861
  replace em861 := em861.symm
  subst em861
  refine aw_aload_n dL_law_864 rfl ?_
  refine aw_aload_n dL_law_865 rfl ?_
  refine aw_iload_n dL_law_866 rfl ?_
  refine aw_iconst (v := 1) dL_law_867 (by decide) ?_
  refine aw_iadd dL_law_868 ?_
  refine aw_sld dL_law_869 (by assumption) ?_
  refine aw_V1i (kc' := 3 * r) (ks' := 33 * r) dL_law_870 cs_L_107_10 hR.1 (r_given hR hS.1.2.1.1) (ab_fit_mk (Nat.le_of_ble_eq_true rfl) (Nat.le_of_ble_eq_true rfl) (by omega) (by omega)) (Nat.le_of_ble_eq_true rfl) (fun x870 M870 h870 => ?_)
  obtain ⟨e870, em870⟩ := h870
  replace em870 := em870.symm
  subst em870
  have hJ9 : JS g M (α 0 0) am ((t : Int) + 1) := ⟨α, ρ, nf, nj, nm, σ, κ, rfl, hC, hR, hS.up⟩
  refine aw_icmp_eq (tgt := 901) dL_law_873 (by decide) (fun h873 => ?_) (fun h873 => absurd (by rw [e861, e870]; exact s_given hS) h873)
  exact kk _ hJ9
set_option maxRecDepth 100000 in
set_option maxHeartbeats 4000000 in
theorem lc_21 {l : Launch} {nm : String} {g : ab_G} {b N ax am t r : Nat} {xs : Nat → Int32} {M : ab_M} (hN : N ≤ 3584) (ht : 7 * t + 7 ≤ N) (hJ : JS g M ax am t) (kk : ∀ M', JS g M' ax am ((t : Int) + 1) → AW l g (XL g b N xs) ZL (YL nm) 13 482 (3 * r) (33 * r) 901 [some (.ref b), some (.ref ax), some (.ref am), some (.int (nI (7 * t)))] [] M') : AW l g (XL g b N xs) ZL (YL nm) 13 482 (3 * r + 3) (33 * r + 33) 878 [some (.ref b), some (.ref ax), some (.ref am), some (.int (nI (7 * t)))] [] M := by
  obtain ⟨α, ρ, nf, nj, nm, σ, κ, rfl, hC, hR, hS⟩ := hJ
  have hct : (t : Int) ≤ 1000 := by omega
  have i1 : vp_in (nI (7 * t) + 1) N := idx7 ht hN (k := 1) (by omega)
  have i2 : vp_in (nI (7 * t) + 2) N := idx7 ht hN (k := 2) (by omega)
  have i3 : vp_in (nI (7 * t) + 3) N := idx7 ht hN (k := 3) (by omega)
  have i4 : vp_in (nI (7 * t) + 4) N := idx7 ht hN (k := 4) (by omega)
  have i5 : vp_in (nI (7 * t) + 5) N := idx7 ht hN (k := 5) (by omega)
  have i6 : vp_in (nI (7 * t) + 6) N := idx7 ht hN (k := 6) (by omega)
  have hb := hS.1.2.2.1.1
  refine aw_aload_n dL_law_878 rfl ?_
  refine aw_aload_n dL_law_879 rfl ?_
  refine aw_iload_n dL_law_880 rfl ?_
  refine aw_iconst (v := 1) dL_law_881 (by decide) ?_
  refine aw_iadd dL_law_882 ?_
  refine aw_sld dL_law_883 (by assumption) ?_
  refine aw_V1i (kc' := 3 * r) (ks' := 33 * r) dL_law_884 cs_L_108_9 hC.1 (c_count hC hS.1.2.2.1.z) (ab_fit_mk (Nat.le_of_ble_eq_true rfl) (Nat.le_of_ble_eq_true rfl) (by omega) (by omega)) (Nat.le_of_ble_eq_true rfl) (fun x884 M884 h884 => ?_)
  obtain ⟨e884, em884⟩ := h884
  replace em884 := em884.symm
  subst em884
  refine aw_aload_n dL_law_887 rfl ?_
  refine aw_aload_n dL_law_888 rfl ?_
  refine aw_iload_n dL_law_889 rfl ?_
  refine aw_iconst (v := 1) dL_law_890 (by decide) ?_
  refine aw_iadd dL_law_891 ?_
  refine aw_sld dL_law_892 (by assumption) ?_
  refine aw_V1i (kc' := 3 * r) (ks' := 33 * r) dL_law_893 cs_L_111_10 hR.1 (r_count hR hS.1.2.1.1) (ab_fit_mk (Nat.le_of_ble_eq_true rfl) (Nat.le_of_ble_eq_true rfl) (by omega) (by omega)) (Nat.le_of_ble_eq_true rfl) (fun x893 M893 h893 => ?_)
  obtain ⟨e893, em893⟩ := h893
  replace em893 := em893.symm
  subst em893
  have hJ9 : JS g M (α 0 0) am ((t : Int) + 1) := ⟨α, ρ, nf, nj, nm, σ, κ, rfl, hC, hR, hS.up⟩
  refine aw_icmp_eq (tgt := 901) dL_law_896 (by decide) (fun h896 => ?_) (fun h896 => absurd (by rw [e884, e893]; exact s_count hS) h896)
  exact kk _ hJ9
set_option maxRecDepth 100000 in
set_option maxHeartbeats 4000000 in
theorem lc_17 {l : Launch} {nm : String} {g : ab_G} {b N ax am t r : Nat} {xs : Nat → Int32} {M : ab_M} (hN : N ≤ 3584) (ht : 7 * t + 7 ≤ N) (hJ : JS g M ax am t) (kk : ∀ M', JS g M' ax am ((t : Int) + 1) → AW l g (XL g b N xs) ZL (YL nm) 13 482 (3 * r) (33 * r) 901 [some (.ref b), some (.ref ax), some (.ref am), some (.int (nI (7 * t)))] [] M') : AW l g (XL g b N xs) ZL (YL nm) 13 482 (3 * r + 3) (33 * r + 33) 746 [some (.ref b), some (.ref ax), some (.ref am), some (.int (nI (7 * t)))] [] M := by
  obtain ⟨α, ρ, nf, nj, nm, σ, κ, rfl, hC, hR, hS⟩ := hJ
  have hct : (t : Int) ≤ 1000 := by omega
  have i1 : vp_in (nI (7 * t) + 1) N := idx7 ht hN (k := 1) (by omega)
  have i2 : vp_in (nI (7 * t) + 2) N := idx7 ht hN (k := 2) (by omega)
  have i3 : vp_in (nI (7 * t) + 3) N := idx7 ht hN (k := 3) (by omega)
  have i4 : vp_in (nI (7 * t) + 4) N := idx7 ht hN (k := 4) (by omega)
  have i5 : vp_in (nI (7 * t) + 5) N := idx7 ht hN (k := 5) (by omega)
  have i6 : vp_in (nI (7 * t) + 6) N := idx7 ht hN (k := 6) (by omega)
  have hb := hS.1.2.2.1.1
  refine aw_aload_n dL_law_746 rfl ?_
  refine aw_aload_n dL_law_747 rfl ?_
  refine aw_iload_n dL_law_748 rfl ?_
  refine aw_iconst (v := 1) dL_law_749 (by decide) ?_
  refine aw_iadd dL_law_750 ?_
  refine aw_sld dL_law_751 (by assumption) ?_
  refine aw_aload_n dL_law_752 rfl ?_
  refine aw_iload_n dL_law_753 rfl ?_
  refine aw_iconst (v := 2) dL_law_754 (by decide) ?_
  refine aw_iadd dL_law_755 ?_
  refine aw_sld dL_law_756 (by assumption) ?_
  refine aw_V2i (kc' := 3 * r) (ks' := 33 * r) dL_law_757 cs_L_92_9 hC.1 (c_poured hC) (ab_fit_mk (Nat.le_of_ble_eq_true rfl) (Nat.le_of_ble_eq_true rfl) (by omega) (by omega)) (Nat.le_of_ble_eq_true rfl) (fun x757 M757 h757 => ?_)
  obtain ⟨e757, em757⟩ := h757
  replace em757 := em757.symm
  subst em757
  refine aw_aload_n dL_law_760 rfl ?_
  refine aw_aload_n dL_law_761 rfl ?_
  refine aw_iload_n dL_law_762 rfl ?_
  refine aw_iconst (v := 1) dL_law_763 (by decide) ?_
  refine aw_iadd dL_law_764 ?_
  refine aw_sld dL_law_765 (by assumption) ?_
  refine aw_aload_n dL_law_766 rfl ?_
  refine aw_iload_n dL_law_767 rfl ?_
  refine aw_iconst (v := 2) dL_law_768 (by decide) ?_
  refine aw_iadd dL_law_769 ?_
  refine aw_sld dL_law_770 (by assumption) ?_
  refine aw_V2i (kc' := 3 * r) (ks' := 33 * r) dL_law_771 cs_L_95_10 hR.1 (r_poured hR hS.1.2.1.1) (ab_fit_mk (Nat.le_of_ble_eq_true rfl) (Nat.le_of_ble_eq_true rfl) (by omega) (by omega)) (Nat.le_of_ble_eq_true rfl) (fun x771 M771 h771 => ?_)
  obtain ⟨e771, em771⟩ := h771
  replace em771 := em771.symm
  subst em771
  have hJ9 : JS g M (α 0 0) am ((t : Int) + 1) := ⟨α, ρ, nf, nj, nm, σ, κ, rfl, hC, hR, hS.up⟩
  refine aw_icmp_eq (tgt := 901) dL_law_774 (by decide) (fun h774 => ?_) (fun h774 => absurd (by rw [e757, e771]; exact s_poured hS) h774)
  exact kk _ hJ9
set_option maxRecDepth 100000 in
set_option maxHeartbeats 4000000 in
theorem lc_18 {l : Launch} {nm : String} {g : ab_G} {b N ax am t r : Nat} {xs : Nat → Int32} {M : ab_M} (hN : N ≤ 3584) (ht : 7 * t + 7 ≤ N) (hJ : JS g M ax am t) (kk : ∀ M', JS g M' ax am ((t : Int) + 1) → AW l g (XL g b N xs) ZL (YL nm) 13 482 (3 * r) (33 * r) 901 [some (.ref b), some (.ref ax), some (.ref am), some (.int (nI (7 * t)))] [] M') : AW l g (XL g b N xs) ZL (YL nm) 13 482 (3 * r + 3) (33 * r + 33) 779 [some (.ref b), some (.ref ax), some (.ref am), some (.int (nI (7 * t)))] [] M := by
  obtain ⟨α, ρ, nf, nj, nm, σ, κ, rfl, hC, hR, hS⟩ := hJ
  have hct : (t : Int) ≤ 1000 := by omega
  have i1 : vp_in (nI (7 * t) + 1) N := idx7 ht hN (k := 1) (by omega)
  have i2 : vp_in (nI (7 * t) + 2) N := idx7 ht hN (k := 2) (by omega)
  have i3 : vp_in (nI (7 * t) + 3) N := idx7 ht hN (k := 3) (by omega)
  have i4 : vp_in (nI (7 * t) + 4) N := idx7 ht hN (k := 4) (by omega)
  have i5 : vp_in (nI (7 * t) + 5) N := idx7 ht hN (k := 5) (by omega)
  have i6 : vp_in (nI (7 * t) + 6) N := idx7 ht hN (k := 6) (by omega)
  have hb := hS.1.2.2.1.1
  refine aw_aload_n dL_law_779 rfl ?_
  refine aw_aload_n dL_law_780 rfl ?_
  refine aw_iload_n dL_law_781 rfl ?_
  refine aw_iconst (v := 1) dL_law_782 (by decide) ?_
  refine aw_iadd dL_law_783 ?_
  refine aw_sld dL_law_784 (by assumption) ?_
  refine aw_aload_n dL_law_785 rfl ?_
  refine aw_iload_n dL_law_786 rfl ?_
  refine aw_iconst (v := 2) dL_law_787 (by decide) ?_
  refine aw_iadd dL_law_788 ?_
  refine aw_sld dL_law_789 (by assumption) ?_
  refine aw_V2i (kc' := 3 * r) (ks' := 33 * r) dL_law_790 cs_L_96_9 hC.1 (c_foul hC hS.1.2.2.1) (ab_fit_mk (Nat.le_of_ble_eq_true rfl) (Nat.le_of_ble_eq_true rfl) (by omega) (by omega)) (Nat.le_of_ble_eq_true rfl) (fun x790 M790 h790 => ?_)
  obtain ⟨e790, em790⟩ := h790
  replace em790 := em790.symm
  subst em790
  refine aw_aload_n dL_law_793 rfl ?_
  refine aw_aload_n dL_law_794 rfl ?_
  refine aw_iload_n dL_law_795 rfl ?_
  refine aw_iconst (v := 1) dL_law_796 (by decide) ?_
  refine aw_iadd dL_law_797 ?_
  refine aw_sld dL_law_798 (by assumption) ?_
  refine aw_aload_n dL_law_799 rfl ?_
  refine aw_iload_n dL_law_800 rfl ?_
  refine aw_iconst (v := 2) dL_law_801 (by decide) ?_
  refine aw_iadd dL_law_802 ?_
  refine aw_sld dL_law_803 (by assumption) ?_
  refine aw_V2i (kc' := 3 * r) (ks' := 33 * r) dL_law_804 cs_L_99_10 hR.1 (r_foul hR hS.1.2.1.1) (ab_fit_mk (Nat.le_of_ble_eq_true rfl) (Nat.le_of_ble_eq_true rfl) (by omega) (by omega)) (Nat.le_of_ble_eq_true rfl) (fun x804 M804 h804 => ?_)
  obtain ⟨e804, em804⟩ := h804
  replace em804 := em804.symm
  subst em804
  have hJ9 : JS g M (α 0 0) am ((t : Int) + 1) := ⟨α, ρ, nf, nj, nm, σ, κ, rfl, hC, hR, hS.up⟩
  refine aw_icmp_eq (tgt := 901) dL_law_807 (by decide) (fun h807 => ?_) (fun h807 => absurd (by rw [e790, e804]; exact s_foul hS) h807)
  exact kk _ hJ9
set_option maxRecDepth 100000 in
set_option maxHeartbeats 4000000 in
theorem lc_16 {l : Launch} {nm : String} {g : ab_G} {b N ax am t r : Nat} {xs : Nat → Int32} {M : ab_M} (hN : N ≤ 3584) (ht : 7 * t + 7 ≤ N) (hJ : JS g M ax am t) (kk : ∀ M', JS g M' ax am ((t : Int) + 1) → AW l g (XL g b N xs) ZL (YL nm) 13 482 (3 * r) (33 * r) 901 [some (.ref b), some (.ref ax), some (.ref am), some (.int (nI (7 * t)))] [] M') : AW l g (XL g b N xs) ZL (YL nm) 13 482 (3 * r + 3) (33 * r + 33) 713 [some (.ref b), some (.ref ax), some (.ref am), some (.int (nI (7 * t)))] [] M := by
  obtain ⟨α, ρ, nf, nj, nm, σ, κ, rfl, hC, hR, hS⟩ := hJ
  have hct : (t : Int) ≤ 1000 := by omega
  have i1 : vp_in (nI (7 * t) + 1) N := idx7 ht hN (k := 1) (by omega)
  have i2 : vp_in (nI (7 * t) + 2) N := idx7 ht hN (k := 2) (by omega)
  have i3 : vp_in (nI (7 * t) + 3) N := idx7 ht hN (k := 3) (by omega)
  have i4 : vp_in (nI (7 * t) + 4) N := idx7 ht hN (k := 4) (by omega)
  have i5 : vp_in (nI (7 * t) + 5) N := idx7 ht hN (k := 5) (by omega)
  have i6 : vp_in (nI (7 * t) + 6) N := idx7 ht hN (k := 6) (by omega)
  have hb := hS.1.2.2.1.1
  refine aw_aload_n dL_law_713 rfl ?_
  refine aw_aload_n dL_law_714 rfl ?_
  refine aw_iload_n dL_law_715 rfl ?_
  refine aw_iconst (v := 1) dL_law_716 (by decide) ?_
  refine aw_iadd dL_law_717 ?_
  refine aw_sld dL_law_718 (by assumption) ?_
  refine aw_aload_n dL_law_719 rfl ?_
  refine aw_iload_n dL_law_720 rfl ?_
  refine aw_iconst (v := 2) dL_law_721 (by decide) ?_
  refine aw_iadd dL_law_722 ?_
  refine aw_sld dL_law_723 (by assumption) ?_
  refine aw_V2i (kc' := 3 * r) (ks' := 33 * r) dL_law_724 cs_L_88_9 hC.1 (c_fire hC hS.1.2.2.1.z) (ab_fit_mk (Nat.le_of_ble_eq_true rfl) (Nat.le_of_ble_eq_true rfl) (by omega) (by omega)) (Nat.le_of_ble_eq_true rfl) (fun x724 M724 h724 => ?_)
  obtain ⟨e724, hC, hKH⟩ := h724
  replace hR := hR.kh hKH
  refine aw_aload_n dL_law_727 rfl ?_
  refine aw_aload_n dL_law_728 rfl ?_
  refine aw_iload_n dL_law_729 rfl ?_
  refine aw_iconst (v := 1) dL_law_730 (by decide) ?_
  refine aw_iadd dL_law_731 ?_
  refine aw_sld dL_law_732 (by assumption) ?_
  refine aw_aload_n dL_law_733 rfl ?_
  refine aw_iload_n dL_law_734 rfl ?_
  refine aw_iconst (v := 2) dL_law_735 (by decide) ?_
  refine aw_iadd dL_law_736 ?_
  refine aw_sld dL_law_737 (by assumption) ?_
  refine aw_V2i (kc' := 3 * r) (ks' := 33 * r) dL_law_738 cs_L_91_10 hR.1 (r_fire hR hS.1.2.1.1) (ab_fit_mk (Nat.le_of_ble_eq_true rfl) (Nat.le_of_ble_eq_true rfl) (by omega) (by omega)) (Nat.le_of_ble_eq_true rfl) (fun x738 M738 h738 => ?_)
  obtain ⟨e738, hR, hKR⟩ := h738
  replace hC := hC.kr hKR
  have hJ9 : JS g M738 (α 0 0) am ((t : Int) + 1) := ⟨α, ρ, nf, nj, nm, _, _, rfl, hC, hR, (s_fire hS).2⟩
  refine aw_icmp_eq (tgt := 901) dL_law_741 (by decide) (fun h741 => ?_) (fun h741 => absurd (by rw [e724, e738]; exact (s_fire hS).1) h741)
  exact kk _ hJ9
set_option maxRecDepth 100000 in
set_option maxHeartbeats 4000000 in
theorem lc_12 {l : Launch} {nm : String} {g : ab_G} {b N ax am t r : Nat} {xs : Nat → Int32} {M : ab_M} (hN : N ≤ 3584) (ht : 7 * t + 7 ≤ N) (hJ : JS g M ax am t) (kk : ∀ M', JS g M' ax am ((t : Int) + 1) → AW l g (XL g b N xs) ZL (YL nm) 13 482 (3 * r) (33 * r) 901 [some (.ref b), some (.ref ax), some (.ref am), some (.int (nI (7 * t)))] [] M') : AW l g (XL g b N xs) ZL (YL nm) 13 482 (3 * r + 3) (33 * r + 33) 600 [some (.ref b), some (.ref ax), some (.ref am), some (.int (nI (7 * t)))] [] M := by
  obtain ⟨α, ρ, nf, nj, nm, σ, κ, rfl, hC, hR, hS⟩ := hJ
  have hct : (t : Int) ≤ 1000 := by omega
  have i1 : vp_in (nI (7 * t) + 1) N := idx7 ht hN (k := 1) (by omega)
  have i2 : vp_in (nI (7 * t) + 2) N := idx7 ht hN (k := 2) (by omega)
  have i3 : vp_in (nI (7 * t) + 3) N := idx7 ht hN (k := 3) (by omega)
  have i4 : vp_in (nI (7 * t) + 4) N := idx7 ht hN (k := 4) (by omega)
  have i5 : vp_in (nI (7 * t) + 5) N := idx7 ht hN (k := 5) (by omega)
  have i6 : vp_in (nI (7 * t) + 6) N := idx7 ht hN (k := 6) (by omega)
  have hb := hS.1.2.2.1.1
  refine aw_aload_n dL_law_600 rfl ?_
  refine aw_aload_n dL_law_601 rfl ?_
  refine aw_iload_n dL_law_602 rfl ?_
  refine aw_iconst (v := 1) dL_law_603 (by decide) ?_
  refine aw_iadd dL_law_604 ?_
  refine aw_sld dL_law_605 (by assumption) ?_
  refine aw_V1i (kc' := 3 * r) (ks' := 33 * r) dL_law_606 cs_L_71_9 hC.1 (c_run hC hS.1.2.2.1) (ab_fit_mk (Nat.le_of_ble_eq_true rfl) (Nat.le_of_ble_eq_true rfl) (by omega) (by omega)) (Nat.le_of_ble_eq_true rfl) (fun x606 M606 h606 => ?_)
  obtain ⟨e606, hC, hKH⟩ := h606
  replace hR := hR.kh hKH
  refine aw_aload_n dL_law_609 rfl ?_
  refine aw_aload_n dL_law_610 rfl ?_
  refine aw_iload_n dL_law_611 rfl ?_
  refine aw_iconst (v := 1) dL_law_612 (by decide) ?_
  refine aw_iadd dL_law_613 ?_
  refine aw_sld dL_law_614 (by assumption) ?_
  refine aw_V1i (kc' := 3 * r) (ks' := 33 * r) dL_law_615 cs_L_74_10 hR.1 (r_run hR hS.1.2.1.1) (ab_fit_mk (Nat.le_of_ble_eq_true rfl) (Nat.le_of_ble_eq_true rfl) (by omega) (by omega)) (Nat.le_of_ble_eq_true rfl) (fun x615 M615 h615 => ?_)
  obtain ⟨e615, hR, hKR⟩ := h615
  replace hC := hC.kr hKR
  have hJ9 : JS g M615 (α 0 0) am ((t : Int) + 1) := ⟨α, ρ, nf, nj, nm, _, _, rfl, hC, hR, (s_run hS hct).2⟩
  refine aw_icmp_eq (tgt := 901) dL_law_618 (by decide) (fun h618 => ?_) (fun h618 => absurd (by rw [e606, e615]; exact (s_run hS hct).1) h618)
  exact kk _ hJ9
set_option maxRecDepth 100000 in
set_option maxHeartbeats 4000000 in
theorem lc_0 {l : Launch} {nm : String} {g : ab_G} {b N ax am t r : Nat} {xs : Nat → Int32} {M : ab_M} (hN : N ≤ 3584) (ht : 7 * t + 7 ≤ N) (hJ : JS g M ax am t) (kk : ∀ M', JS g M' ax am ((t : Int) + 1) → AW l g (XL g b N xs) ZL (YL nm) 13 482 (3 * r) (33 * r) 901 [some (.ref b), some (.ref ax), some (.ref am), some (.int (nI (7 * t)))] [] M') : AW l g (XL g b N xs) ZL (YL nm) 13 482 (3 * r + 3) (33 * r + 33) 136 [some (.ref b), some (.ref ax), some (.ref am), some (.int (nI (7 * t)))] [] M := by
  obtain ⟨α, ρ, nf, nj, nm, σ, κ, rfl, hC, hR, hS⟩ := hJ
  have hct : (t : Int) ≤ 1000 := by omega
  have i1 : vp_in (nI (7 * t) + 1) N := idx7 ht hN (k := 1) (by omega)
  have i2 : vp_in (nI (7 * t) + 2) N := idx7 ht hN (k := 2) (by omega)
  have i3 : vp_in (nI (7 * t) + 3) N := idx7 ht hN (k := 3) (by omega)
  have i4 : vp_in (nI (7 * t) + 4) N := idx7 ht hN (k := 4) (by omega)
  have i5 : vp_in (nI (7 * t) + 5) N := idx7 ht hN (k := 5) (by omega)
  have i6 : vp_in (nI (7 * t) + 6) N := idx7 ht hN (k := 6) (by omega)
  have hb := hS.1.2.2.1.1
  refine aw_aload_n dL_law_136 rfl ?_
  refine aw_aload_n dL_law_137 rfl ?_
  refine aw_iload_n dL_law_138 rfl ?_
  refine aw_iconst (v := 1) dL_law_139 (by decide) ?_
  refine aw_iadd dL_law_140 ?_
  refine aw_sld dL_law_141 (by assumption) ?_
  refine aw_V1i (kc' := 3 * r) (ks' := 33 * r) dL_law_142 cs_L_13_9 hC.1 (c_fountain hC hS.1.2.2.1.z) (ab_fit_mk (Nat.le_of_ble_eq_true rfl) (Nat.le_of_ble_eq_true rfl) (by omega) (by omega)) (Nat.le_of_ble_eq_true rfl) (fun x142 M142 h142 => ?_)
  obtain ⟨e142, ⟨β, eβ, hC⟩, hKH⟩ := h142
  replace hR := hR.kh hKH
  refine aw_aload_n dL_law_145 rfl ?_
  refine aw_aload_n dL_law_146 rfl ?_
  refine aw_iload_n dL_law_147 rfl ?_
  refine aw_iconst (v := 1) dL_law_148 (by decide) ?_
  refine aw_iadd dL_law_149 ?_
  refine aw_sld dL_law_150 (by assumption) ?_
  refine aw_V1i (kc' := 3 * r) (ks' := 33 * r) dL_law_151 cs_L_17_10 hR.1 (r_fountain hR hS.1.2.1.1) (ab_fit_mk (Nat.le_of_ble_eq_true rfl) (Nat.le_of_ble_eq_true rfl) (by omega) (by omega)) (Nat.le_of_ble_eq_true rfl) (fun x151 M151 h151 => ?_)
  obtain ⟨e151, hR, hKR⟩ := h151
  replace hC := hC.kr hKR
  have hJ9 : JS g M151 (α 0 0) am ((t : Int) + 1) := ⟨β, ρ, _, nj, nm, _, _, eβ, hC, hR, (s_fountain hS).2⟩
  refine aw_icmp_eq (tgt := 901) dL_law_154 (by decide) (fun h154 => ?_) (fun h154 => absurd (by rw [e142, e151]; exact (s_fountain hS).1) h154)
  exact kk _ hJ9
