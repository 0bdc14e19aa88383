/-! the law's cases, more -/
set_option maxRecDepth 100000 in
set_option maxHeartbeats 4000000 in
theorem lc_1 {l : Launch} (hl : l.stackTraces = false) {Z : o_Z} {post : o_P} {mc ms n d1 d2 : Nat} (hL : Z.2.2.2.1 ≤ 2048) (hn : 4 * n + 4 ≤ Z.2.2.2.1) (hmc : 57 ≤ mc) (hms : 12540 ≤ ms) (h1 : d1 < 16) (h2 : d2 < 16) {g M M' T T' : Nat → Nat → Int} {P P' : List (Nat → Nat → Int)} {S S' : Option (Nat → Nat → Int)} (hmd : o_md g M P S T) (k : Int) (hk : 0 ≤ k ∧ k ≤ 4) (v v2 : Int) (hv : k = 0 → v2 = v)
    (C1 : o_Ct l yL_addLamp wL_addLamp d1 o_no [.ref 0, .int (o_I (h_s Z (4 * n + 1))), .ref 201] o_N (o_mem g) 1 6 (h_x k 201 ((o_I v).toInt) M' P' S' T' g)) (C2 : ∀ g1, o_md g1 M P S T → o_Ct l yX12_addLamp wX12_addLamp d2 o_no [.ref 192, .int (o_I (h_s Z (4 * n + 1)))] o_N (o_mem g1) 0 0 (r_y k (.int (o_I v2)) M' P' S' T' g1))
    (K : ∀ g', o_xd g' M' P' S' T' → o_md g' M' P' S' T' → o_Vz Z l mL_law 16 w_al post 2455 (w_ls n) [] o_N (o_mem g') (mc - 57) (ms - 12540)) : o_Vz Z l mL_law 16 w_al post 312 (w_ls n) [] o_N (o_mem g) mc ms := by
  obtain ⟨hk1, hk2⟩ := hk
  refine oz_loc [(0, .ref 5000000), (1, .ref 0), (2, .ref 192), (3, .ref 201), (4, .ref 202), (5, .int (o_I ((4 * n : Nat) : Int)))] rfl ?_
  refine oz_aload_n dL_law_312 rfl ?_
  refine oz_aload_n dL_law_313 rfl ?_
  refine oz_iload dL_law_314 rfl ?_
  refine oz_iconst dL_law_316 ?_
  refine oz_iadd dL_law_317 ?_
  refine oz_sld (j := 4 * n + 1) (by omega) (by omega) hL dL_law_318 ?_
  refine oz_aload_n dL_law_319 rfl ?_
  refine oz_callSW [.ref 0, .int (o_I (h_s Z (4 * n + 1))), .ref 201] (rest := []) C1 (fun E n9 h9 q => by obtain ⟨q1, -⟩ := q; cases q1) dL_law_320 ml_L_152 ys_L_addLamp rfl (by decide) h1 (by omega) (by omega) rfl (Nat.le_of_ble_eq_true rfl) (fun _ z => z.elim) (fun _ z => z.elim) (Or.inl fun _ z => z) (fun v9 n9 h9 q9 => ?_)
  obtain ⟨q1, rfl, g1, rfl, hx1, f1, hv1⟩ := q9
  cases q1
  refine oz_istore dL_law_323 (by decide) ?_
  refine oz_aload_n dL_law_325 rfl ?_
  refine oz_aload_n dL_law_326 rfl ?_
  refine oz_iload dL_law_327 rfl ?_
  refine oz_iconst dL_law_329 ?_
  refine oz_iadd dL_law_330 ?_
  refine oz_sld (j := 4 * n + 1) (by omega) (by omega) hL dL_law_331 ?_
  refine oz_cVm [.int (o_I (h_s Z (4 * n + 1)))] (C2 g1 (h_md_c hmd f1)) dL_law_332 ml_L_155 yw_X12_addLamp rfl (by decide) h2 (by decide) rfl rfl rfl (Nat.le_of_ble_eq_true rfl) (fun g2 q2 => ?_)
  obtain ⟨e7, hmd2, f2⟩ := q2
  refine oz_istore dL_law_335 (by decide) ?_
  refine oz_aload_n dL_law_337 rfl ?_
  refine oz_cVm [] (h_thrown hl 0 g2 k e7) dL_law_338 ml_L_149 yw_X12_thrown rfl (by decide) (by decide) (by decide) rfl rfl rfl (Nat.le_of_ble_eq_true rfl) (fun g3 q3 => ?_)
  rw [q3]
  refine oz_iload dL_law_341 rfl ?_
  refine oz_icmpS (tgt := 348) dL_law_343 (by decide) ?_
  refine oz_iload dL_law_348 rfl ?_
  refine oz_ifx_ne (tgt := 365) dL_law_350 (by decide) (fun c9 => ?_) (fun c9 => ?_)
  · refine oz_goto (tgt := 2455) dL_law_365 (by decide) ?_
    exact oz_loc [(0, .ref 5000000), (1, .ref 0), (2, .ref 192), (3, .ref 201), (4, .ref 202), (5, .int (o_I ((4 * n : Nat) : Int)))] rfl (oz_mono (by omega) (by omega) (K g2 (h_xd_r hx1 f2) hmd2))
  have hk0 : k = 0 := (o_eq ⟨by omega, by omega⟩ o_R0).mp c9
  refine oz_aload_n dL_law_353 rfl ?_
  refine oz_iconst dL_law_354 ?_
  refine oz_lald (f := fun j => Int64.ofInt (g2 201 j)) (len := 1) dL_law_355 (by decide) rfl (by decide) (by decide) (by decide) ?_
  refine oz_iload dL_law_356 rfl ?_
  refine oz_i2l dL_law_358 ?_
  refine oz_lcmpS (h_eqL f2 (hv1 hk0) (hv hk0)) dL_law_359 ?_
  refine oz_ifx_eq (tgt := 365) dL_law_360 (by decide) (fun _ => ?_) (fun q => absurd rfl q)
  refine oz_goto (tgt := 2455) dL_law_365 (by decide) ?_
  exact oz_loc [(0, .ref 5000000), (1, .ref 0), (2, .ref 192), (3, .ref 201), (4, .ref 202), (5, .int (o_I ((4 * n : Nat) : Int)))] rfl (oz_mono (by omega) (by omega) (K g2 (h_xd_r hx1 f2) hmd2))
set_option maxRecDepth 100000 in
set_option maxHeartbeats 4000000 in
theorem lc_2 {l : Launch} (hl : l.stackTraces = false) {Z : o_Z} {post : o_P} {mc ms n d1 d2 : Nat} (hL : Z.2.2.2.1 ≤ 2048) (hn : 4 * n + 4 ≤ Z.2.2.2.1) (hmc : 57 ≤ mc) (hms : 12540 ≤ ms) (h1 : d1 < 16) (h2 : d2 < 16) {g M M' T T' : Nat → Nat → Int} {P P' : List (Nat → Nat → Int)} {S S' : Option (Nat → Nat → Int)} (hmd : o_md g M P S T) (k : Int) (hk : 0 ≤ k ∧ k ≤ 4) (v v2 : Int) (hv : k = 0 → v2 = v)
    (C1 : o_Ct l yL_addOil wL_addOil d1 o_no [.ref 0, .int (o_I (h_s Z (4 * n + 1))), .ref 201] o_N (o_mem g) 1 6 (h_x k 201 ((o_I v).toInt) M' P' S' T' g)) (C2 : ∀ g1, o_md g1 M P S T → o_Ct l yX12_addOil wX12_addOil d2 o_no [.ref 192, .int (o_I (h_s Z (4 * n + 1)))] o_N (o_mem g1) 0 0 (r_y k (.int (o_I v2)) M' P' S' T' g1))
    (K : ∀ g', o_xd g' M' P' S' T' → o_md g' M' P' S' T' → o_Vz Z l mL_law 16 w_al post 2455 (w_ls n) [] o_N (o_mem g') (mc - 57) (ms - 12540)) : o_Vz Z l mL_law 16 w_al post 368 (w_ls n) [] o_N (o_mem g) mc ms := by
  obtain ⟨hk1, hk2⟩ := hk
  refine oz_loc [(0, .ref 5000000), (1, .ref 0), (2, .ref 192), (3, .ref 201), (4, .ref 202), (5, .int (o_I ((4 * n : Nat) : Int)))] rfl ?_
  refine oz_aload_n dL_law_368 rfl ?_
  refine oz_aload_n dL_law_369 rfl ?_
  refine oz_iload dL_law_370 rfl ?_
  refine oz_iconst dL_law_372 ?_
  refine oz_iadd dL_law_373 ?_
  refine oz_sld (j := 4 * n + 1) (by omega) (by omega) hL dL_law_374 ?_
  refine oz_aload_n dL_law_375 rfl ?_
  refine oz_callSW [.ref 0, .int (o_I (h_s Z (4 * n + 1))), .ref 201] (rest := []) C1 (fun E n9 h9 q => by obtain ⟨q1, -⟩ := q; cases q1) dL_law_376 ml_L_156 ys_L_addOil rfl (by decide) h1 (by omega) (by omega) rfl (Nat.le_of_ble_eq_true rfl) (fun _ z => z.elim) (fun _ z => z.elim) (Or.inl fun _ z => z) (fun v9 n9 h9 q9 => ?_)
  obtain ⟨q1, rfl, g1, rfl, hx1, f1, hv1⟩ := q9
  cases q1
  refine oz_istore dL_law_379 (by decide) ?_
  refine oz_aload_n dL_law_381 rfl ?_
  refine oz_aload_n dL_law_382 rfl ?_
  refine oz_iload dL_law_383 rfl ?_
  refine oz_iconst dL_law_385 ?_
  refine oz_iadd dL_law_386 ?_
  refine oz_sld (j := 4 * n + 1) (by omega) (by omega) hL dL_law_387 ?_
  refine oz_cVm [.int (o_I (h_s Z (4 * n + 1)))] (C2 g1 (h_md_c hmd f1)) dL_law_388 ml_L_158 yw_X12_addOil rfl (by decide) h2 (by decide) rfl rfl rfl (Nat.le_of_ble_eq_true rfl) (fun g2 q2 => ?_)
  obtain ⟨e7, hmd2, f2⟩ := q2
  refine oz_istore dL_law_391 (by decide) ?_
  refine oz_aload_n dL_law_393 rfl ?_
  refine oz_cVm [] (h_thrown hl 0 g2 k e7) dL_law_394 ml_L_149 yw_X12_thrown rfl (by decide) (by decide) (by decide) rfl rfl rfl (Nat.le_of_ble_eq_true rfl) (fun g3 q3 => ?_)
  rw [q3]
  refine oz_iload dL_law_397 rfl ?_
  refine oz_icmpS (tgt := 404) dL_law_399 (by decide) ?_
  refine oz_iload dL_law_404 rfl ?_
  refine oz_ifx_ne (tgt := 421) dL_law_406 (by decide) (fun c9 => ?_) (fun c9 => ?_)
  · refine oz_goto (tgt := 2455) dL_law_421 (by decide) ?_
    exact oz_loc [(0, .ref 5000000), (1, .ref 0), (2, .ref 192), (3, .ref 201), (4, .ref 202), (5, .int (o_I ((4 * n : Nat) : Int)))] rfl (oz_mono (by omega) (by omega) (K g2 (h_xd_r hx1 f2) hmd2))
  have hk0 : k = 0 := (o_eq ⟨by omega, by omega⟩ o_R0).mp c9
  refine oz_aload_n dL_law_409 rfl ?_
  refine oz_iconst dL_law_410 ?_
  refine oz_lald (f := fun j => Int64.ofInt (g2 201 j)) (len := 1) dL_law_411 (by decide) rfl (by decide) (by decide) (by decide) ?_
  refine oz_iload dL_law_412 rfl ?_
  refine oz_i2l dL_law_414 ?_
  refine oz_lcmpS (h_eqL f2 (hv1 hk0) (hv hk0)) dL_law_415 ?_
  refine oz_ifx_eq (tgt := 421) dL_law_416 (by decide) (fun _ => ?_) (fun q => absurd rfl q)
  refine oz_goto (tgt := 2455) dL_law_421 (by decide) ?_
  exact oz_loc [(0, .ref 5000000), (1, .ref 0), (2, .ref 192), (3, .ref 201), (4, .ref 202), (5, .int (o_I ((4 * n : Nat) : Int)))] rfl (oz_mono (by omega) (by omega) (K g2 (h_xd_r hx1 f2) hmd2))
set_option maxRecDepth 100000 in
set_option maxHeartbeats 4000000 in
theorem lc_3 {l : Launch} (hl : l.stackTraces = false) {Z : o_Z} {post : o_P} {mc ms n d1 d2 : Nat} (hL : Z.2.2.2.1 ≤ 2048) (hn : 4 * n + 4 ≤ Z.2.2.2.1) (hmc : 57 ≤ mc) (hms : 12540 ≤ ms) (h1 : d1 < 16) (h2 : d2 < 16) {g M M' T T' : Nat → Nat → Int} {P P' : List (Nat → Nat → Int)} {S S' : Option (Nat → Nat → Int)} (hmd : o_md g M P S T) (k : Int) (hk : 0 ≤ k ∧ k ≤ 4) (v v2 : Int) (hv : k = 0 → v2 = v)
    (C1 : o_Ct l yL_lease wL_lease d1 o_no [.ref 0, .int (o_I (h_s Z (4 * n + 1))), .int (o_I (h_s Z (4 * n + 2))), .int (o_I (h_s Z (4 * n + 3))), .ref 201] o_N (o_mem g) 1 6 (h_x k 201 ((o_I v).toInt) M' P' S' T' g)) (C2 : ∀ g1, o_md g1 M P S T → o_Ct l yX12_lease wX12_lease d2 o_no [.ref 192, .int (o_I (h_s Z (4 * n + 1))), .int (o_I (h_s Z (4 * n + 2))), .int (o_I (h_s Z (4 * n + 3)))] o_N (o_mem g1) 0 0 (r_y k (.int (o_I v2)) M' P' S' T' g1))
    (K : ∀ g', o_xd g' M' P' S' T' → o_md g' M' P' S' T' → o_Vz Z l mL_law 16 w_al post 2455 (w_ls n) [] o_N (o_mem g') (mc - 57) (ms - 12540)) : o_Vz Z l mL_law 16 w_al post 424 (w_ls n) [] o_N (o_mem g) mc ms := by
  obtain ⟨hk1, hk2⟩ := hk
  refine oz_loc [(0, .ref 5000000), (1, .ref 0), (2, .ref 192), (3, .ref 201), (4, .ref 202), (5, .int (o_I ((4 * n : Nat) : Int)))] rfl ?_
  refine oz_aload_n dL_law_424 rfl ?_
  refine oz_aload_n dL_law_425 rfl ?_
  refine oz_iload dL_law_426 rfl ?_
  refine oz_iconst dL_law_428 ?_
  refine oz_iadd dL_law_429 ?_
  refine oz_sld (j := 4 * n + 1) (by omega) (by omega) hL dL_law_430 ?_
  refine oz_aload_n dL_law_431 rfl ?_
  refine oz_iload dL_law_432 rfl ?_
  refine oz_iconst dL_law_434 ?_
  refine oz_iadd dL_law_435 ?_
  refine oz_sld (j := 4 * n + 2) (by omega) (by omega) hL dL_law_436 ?_
  refine oz_aload_n dL_law_437 rfl ?_
  refine oz_iload dL_law_438 rfl ?_
  refine oz_iconst dL_law_440 ?_
  refine oz_iadd dL_law_441 ?_
  refine oz_sld (j := 4 * n + 3) (by omega) (by omega) hL dL_law_442 ?_
  refine oz_aload_n dL_law_443 rfl ?_
  refine oz_callSW [.ref 0, .int (o_I (h_s Z (4 * n + 1))), .int (o_I (h_s Z (4 * n + 2))), .int (o_I (h_s Z (4 * n + 3))), .ref 201] (rest := []) C1 (fun E n9 h9 q => by obtain ⟨q1, -⟩ := q; cases q1) dL_law_444 ml_L_159 ys_L_lease rfl (by decide) h1 (by omega) (by omega) rfl (Nat.le_of_ble_eq_true rfl) (fun _ z => z.elim) (fun _ z => z.elim) (Or.inl fun _ z => z) (fun v9 n9 h9 q9 => ?_)
  obtain ⟨q1, rfl, g1, rfl, hx1, f1, hv1⟩ := q9
  cases q1
  refine oz_istore dL_law_447 (by decide) ?_
  refine oz_aload_n dL_law_449 rfl ?_
  refine oz_aload_n dL_law_450 rfl ?_
  refine oz_iload dL_law_451 rfl ?_
  refine oz_iconst dL_law_453 ?_
  refine oz_iadd dL_law_454 ?_
  refine oz_sld (j := 4 * n + 1) (by omega) (by omega) hL dL_law_455 ?_
  refine oz_aload_n dL_law_456 rfl ?_
  refine oz_iload dL_law_457 rfl ?_
  refine oz_iconst dL_law_459 ?_
  refine oz_iadd dL_law_460 ?_
  refine oz_sld (j := 4 * n + 2) (by omega) (by omega) hL dL_law_461 ?_
  refine oz_aload_n dL_law_462 rfl ?_
  refine oz_iload dL_law_463 rfl ?_
  refine oz_iconst dL_law_465 ?_
  refine oz_iadd dL_law_466 ?_
  refine oz_sld (j := 4 * n + 3) (by omega) (by omega) hL dL_law_467 ?_
  refine oz_cVm [.int (o_I (h_s Z (4 * n + 1))), .int (o_I (h_s Z (4 * n + 2))), .int (o_I (h_s Z (4 * n + 3)))] (C2 g1 (h_md_c hmd f1)) dL_law_468 ml_L_162 yw_X12_lease rfl (by decide) h2 (by decide) rfl rfl rfl (Nat.le_of_ble_eq_true rfl) (fun g2 q2 => ?_)
  obtain ⟨e7, hmd2, f2⟩ := q2
  refine oz_istore dL_law_471 (by decide) ?_
  refine oz_aload_n dL_law_473 rfl ?_
  refine oz_cVm [] (h_thrown hl 0 g2 k e7) dL_law_474 ml_L_149 yw_X12_thrown rfl (by decide) (by decide) (by decide) rfl rfl rfl (Nat.le_of_ble_eq_true rfl) (fun g3 q3 => ?_)
  rw [q3]
  refine oz_iload dL_law_477 rfl ?_
  refine oz_icmpS (tgt := 484) dL_law_479 (by decide) ?_
  refine oz_iload dL_law_484 rfl ?_
  refine oz_ifx_ne (tgt := 501) dL_law_486 (by decide) (fun c9 => ?_) (fun c9 => ?_)
  · refine oz_goto (tgt := 2455) dL_law_501 (by decide) ?_
    exact oz_loc [(0, .ref 5000000), (1, .ref 0), (2, .ref 192), (3, .ref 201), (4, .ref 202), (5, .int (o_I ((4 * n : Nat) : Int)))] rfl (oz_mono (by omega) (by omega) (K g2 (h_xd_r hx1 f2) hmd2))
  have hk0 : k = 0 := (o_eq ⟨by omega, by omega⟩ o_R0).mp c9
  refine oz_aload_n dL_law_489 rfl ?_
  refine oz_iconst dL_law_490 ?_
  refine oz_lald (f := fun j => Int64.ofInt (g2 201 j)) (len := 1) dL_law_491 (by decide) rfl (by decide) (by decide) (by decide) ?_
  refine oz_iload dL_law_492 rfl ?_
  refine oz_i2l dL_law_494 ?_
  refine oz_lcmpS (h_eqL f2 (hv1 hk0) (hv hk0)) dL_law_495 ?_
  refine oz_ifx_eq (tgt := 501) dL_law_496 (by decide) (fun _ => ?_) (fun q => absurd rfl q)
  refine oz_goto (tgt := 2455) dL_law_501 (by decide) ?_
  exact oz_loc [(0, .ref 5000000), (1, .ref 0), (2, .ref 192), (3, .ref 201), (4, .ref 202), (5, .int (o_I ((4 * n : Nat) : Int)))] rfl (oz_mono (by omega) (by omega) (K g2 (h_xd_r hx1 f2) hmd2))
set_option maxRecDepth 100000 in
set_option maxHeartbeats 4000000 in
theorem lc_4 {l : Launch} (hl : l.stackTraces = false) {Z : o_Z} {post : o_P} {mc ms n d1 d2 : Nat} (hL : Z.2.2.2.1 ≤ 2048) (hn : 4 * n + 4 ≤ Z.2.2.2.1) (hmc : 57 ≤ mc) (hms : 12540 ≤ ms) (h1 : d1 < 16) (h2 : d2 < 16) {g M M' T T' : Nat → Nat → Int} {P P' : List (Nat → Nat → Int)} {S S' : Option (Nat → Nat → Int)} (hmd : o_md g M P S T) (k : Int) (hk : 0 ≤ k ∧ k ≤ 4) (v v2 : Int) (hv : k = 0 → v2 = v)
    (C1 : o_Ct l yL_requestRenewal wL_requestRenewal d1 o_no [.ref 0, .int (o_I (h_s Z (4 * n + 1))), .int (o_I (h_s Z (4 * n + 2))), .ref 201] o_N (o_mem g) 1 6 (h_x k 201 ((o_I v).toInt) M' P' S' T' g)) (C2 : ∀ g1, o_md g1 M P S T → o_Ct l yX12_requestRenewal wX12_requestRenewal d2 o_no [.ref 192, .int (o_I (h_s Z (4 * n + 1))), .int (o_I (h_s Z (4 * n + 2)))] o_N (o_mem g1) 0 0 (r_y k (.int (o_I v2)) M' P' S' T' g1))
    (K : ∀ g', o_xd g' M' P' S' T' → o_md g' M' P' S' T' → o_Vz Z l mL_law 16 w_al post 2455 (w_ls n) [] o_N (o_mem g') (mc - 57) (ms - 12540)) : o_Vz Z l mL_law 16 w_al post 504 (w_ls n) [] o_N (o_mem g) mc ms := by
  obtain ⟨hk1, hk2⟩ := hk
  refine oz_loc [(0, .ref 5000000), (1, .ref 0), (2, .ref 192), (3, .ref 201), (4, .ref 202), (5, .int (o_I ((4 * n : Nat) : Int)))] rfl ?_
  refine oz_aload_n dL_law_504 rfl ?_
  refine oz_aload_n dL_law_505 rfl ?_
  refine oz_iload dL_law_506 rfl ?_
  refine oz_iconst dL_law_508 ?_
  refine oz_iadd dL_law_509 ?_
  refine oz_sld (j := 4 * n + 1) (by omega) (by omega) hL dL_law_510 ?_
  refine oz_aload_n dL_law_511 rfl ?_
  refine oz_iload dL_law_512 rfl ?_
  refine oz_iconst dL_law_514 ?_
  refine oz_iadd dL_law_515 ?_
  refine oz_sld (j := 4 * n + 2) (by omega) (by omega) hL dL_law_516 ?_
  refine oz_aload_n dL_law_517 rfl ?_
  refine oz_callSW [.ref 0, .int (o_I (h_s Z (4 * n + 1))), .int (o_I (h_s Z (4 * n + 2))), .ref 201] (rest := []) C1 (fun E n9 h9 q => by obtain ⟨q1, -⟩ := q; cases q1) dL_law_518 ml_L_163 ys_L_requestRenewal rfl (by decide) h1 (by omega) (by omega) rfl (Nat.le_of_ble_eq_true rfl) (fun _ z => z.elim) (fun _ z => z.elim) (Or.inl fun _ z => z) (fun v9 n9 h9 q9 => ?_)
  obtain ⟨q1, rfl, g1, rfl, hx1, f1, hv1⟩ := q9
  cases q1
  refine oz_istore dL_law_521 (by decide) ?_
  refine oz_aload_n dL_law_523 rfl ?_
  refine oz_aload_n dL_law_524 rfl ?_
  refine oz_iload dL_law_525 rfl ?_
  refine oz_iconst dL_law_527 ?_
  refine oz_iadd dL_law_528 ?_
  refine oz_sld (j := 4 * n + 1) (by omega) (by omega) hL dL_law_529 ?_
  refine oz_aload_n dL_law_530 rfl ?_
  refine oz_iload dL_law_531 rfl ?_
  refine oz_iconst dL_law_533 ?_
  refine oz_iadd dL_law_534 ?_
  refine oz_sld (j := 4 * n + 2) (by omega) (by omega) hL dL_law_535 ?_
  refine oz_cVm [.int (o_I (h_s Z (4 * n + 1))), .int (o_I (h_s Z (4 * n + 2)))] (C2 g1 (h_md_c hmd f1)) dL_law_536 ml_L_166 yw_X12_requestRenewal rfl (by decide) h2 (by decide) rfl rfl rfl (Nat.le_of_ble_eq_true rfl) (fun g2 q2 => ?_)
  obtain ⟨e7, hmd2, f2⟩ := q2
  refine oz_istore dL_law_539 (by decide) ?_
  refine oz_aload_n dL_law_541 rfl ?_
  refine oz_cVm [] (h_thrown hl 0 g2 k e7) dL_law_542 ml_L_149 yw_X12_thrown rfl (by decide) (by decide) (by decide) rfl rfl rfl (Nat.le_of_ble_eq_true rfl) (fun g3 q3 => ?_)
  rw [q3]
  refine oz_iload dL_law_545 rfl ?_
  refine oz_icmpS (tgt := 552) dL_law_547 (by decide) ?_
  refine oz_iload dL_law_552 rfl ?_
  refine oz_ifx_ne (tgt := 569) dL_law_554 (by decide) (fun c9 => ?_) (fun c9 => ?_)
  · refine oz_goto (tgt := 2455) dL_law_569 (by decide) ?_
    exact oz_loc [(0, .ref 5000000), (1, .ref 0), (2, .ref 192), (3, .ref 201), (4, .ref 202), (5, .int (o_I ((4 * n : Nat) : Int)))] rfl (oz_mono (by omega) (by omega) (K g2 (h_xd_r hx1 f2) hmd2))
  have hk0 : k = 0 := (o_eq ⟨by omega, by omega⟩ o_R0).mp c9
  refine oz_aload_n dL_law_557 rfl ?_
  refine oz_iconst dL_law_558 ?_
  refine oz_lald (f := fun j => Int64.ofInt (g2 201 j)) (len := 1) dL_law_559 (by decide) rfl (by decide) (by decide) (by decide) ?_
  refine oz_iload dL_law_560 rfl ?_
  refine oz_i2l dL_law_562 ?_
  refine oz_lcmpS (h_eqL f2 (hv1 hk0) (hv hk0)) dL_law_563 ?_
  refine oz_ifx_eq (tgt := 569) dL_law_564 (by decide) (fun _ => ?_) (fun q => absurd rfl q)
  refine oz_goto (tgt := 2455) dL_law_569 (by decide) ?_
  exact oz_loc [(0, .ref 5000000), (1, .ref 0), (2, .ref 192), (3, .ref 201), (4, .ref 202), (5, .int (o_I ((4 * n : Nat) : Int)))] rfl (oz_mono (by omega) (by omega) (K g2 (h_xd_r hx1 f2) hmd2))
set_option maxRecDepth 100000 in
set_option maxHeartbeats 4000000 in
theorem lc_5 {l : Launch} (hl : l.stackTraces = false) {Z : o_Z} {post : o_P} {mc ms n d1 d2 : Nat} (hL : Z.2.2.2.1 ≤ 2048) (hn : 4 * n + 4 ≤ Z.2.2.2.1) (hmc : 57 ≤ mc) (hms : 12540 ≤ ms) (h1 : d1 < 16) (h2 : d2 < 16) {g M M' T T' : Nat → Nat → Int} {P P' : List (Nat → Nat → Int)} {S S' : Option (Nat → Nat → Int)} (hmd : o_md g M P S T) (k : Int) (hk : 0 ≤ k ∧ k ≤ 4) (v v2 : Int) (hv : k = 0 → v2 = v)
    (C1 : o_Ct l yL_giveUp wL_giveUp d1 o_no [.ref 0, .int (o_I (h_s Z (4 * n + 1))), .ref 201] o_N (o_mem g) 1 6 (h_x k 201 ((o_I v).toInt) M' P' S' T' g)) (C2 : ∀ g1, o_md g1 M P S T → o_Ct l yX12_giveUp wX12_giveUp d2 o_no [.ref 192, .int (o_I (h_s Z (4 * n + 1)))] o_N (o_mem g1) 0 0 (r_y k (.int (o_I v2)) M' P' S' T' g1))
    (K : ∀ g', o_xd g' M' P' S' T' → o_md g' M' P' S' T' → o_Vz Z l mL_law 16 w_al post 2455 (w_ls n) [] o_N (o_mem g') (mc - 57) (ms - 12540)) : o_Vz Z l mL_law 16 w_al post 572 (w_ls n) [] o_N (o_mem g) mc ms := by
  obtain ⟨hk1, hk2⟩ := hk
  refine oz_loc [(0, .ref 5000000), (1, .ref 0), (2, .ref 192), (3, .ref 201), (4, .ref 202), (5, .int (o_I ((4 * n : Nat) : Int)))] rfl ?_
  refine oz_aload_n dL_law_572 rfl ?_
  refine oz_aload_n dL_law_573 rfl ?_
  refine oz_iload dL_law_574 rfl ?_
  refine oz_iconst dL_law_576 ?_
  refine oz_iadd dL_law_577 ?_
  refine oz_sld (j := 4 * n + 1) (by omega) (by omega) hL dL_law_578 ?_
  refine oz_aload_n dL_law_579 rfl ?_
  refine oz_callSW [.ref 0, .int (o_I (h_s Z (4 * n + 1))), .ref 201] (rest := []) C1 (fun E n9 h9 q => by obtain ⟨q1, -⟩ := q; cases q1) dL_law_580 ml_L_167 ys_L_giveUp rfl (by decide) h1 (by omega) (by omega) rfl (Nat.le_of_ble_eq_true rfl) (fun _ z => z.elim) (fun _ z => z.elim) (Or.inl fun _ z => z) (fun v9 n9 h9 q9 => ?_)
  obtain ⟨q1, rfl, g1, rfl, hx1, f1, hv1⟩ := q9
  cases q1
  refine oz_istore dL_law_583 (by decide) ?_
  refine oz_aload_n dL_law_585 rfl ?_
  refine oz_aload_n dL_law_586 rfl ?_
  refine oz_iload dL_law_587 rfl ?_
  refine oz_iconst dL_law_589 ?_
  refine oz_iadd dL_law_590 ?_
  refine oz_sld (j := 4 * n + 1) (by omega) (by omega) hL dL_law_591 ?_
  refine oz_cVm [.int (o_I (h_s Z (4 * n + 1)))] (C2 g1 (h_md_c hmd f1)) dL_law_592 ml_L_169 yw_X12_giveUp rfl (by decide) h2 (by decide) rfl rfl rfl (Nat.le_of_ble_eq_true rfl) (fun g2 q2 => ?_)
  obtain ⟨e7, hmd2, f2⟩ := q2
  refine oz_istore dL_law_595 (by decide) ?_
  refine oz_aload_n dL_law_597 rfl ?_
  refine oz_cVm [] (h_thrown hl 0 g2 k e7) dL_law_598 ml_L_149 yw_X12_thrown rfl (by decide) (by decide) (by decide) rfl rfl rfl (Nat.le_of_ble_eq_true rfl) (fun g3 q3 => ?_)
  rw [q3]
  refine oz_iload dL_law_601 rfl ?_
  refine oz_icmpS (tgt := 608) dL_law_603 (by decide) ?_
  refine oz_iload dL_law_608 rfl ?_
  refine oz_ifx_ne (tgt := 625) dL_law_610 (by decide) (fun c9 => ?_) (fun c9 => ?_)
  · refine oz_goto (tgt := 2455) dL_law_625 (by decide) ?_
    exact oz_loc [(0, .ref 5000000), (1, .ref 0), (2, .ref 192), (3, .ref 201), (4, .ref 202), (5, .int (o_I ((4 * n : Nat) : Int)))] rfl (oz_mono (by omega) (by omega) (K g2 (h_xd_r hx1 f2) hmd2))
  have hk0 : k = 0 := (o_eq ⟨by omega, by omega⟩ o_R0).mp c9
  refine oz_aload_n dL_law_613 rfl ?_
  refine oz_iconst dL_law_614 ?_
  refine oz_lald (f := fun j => Int64.ofInt (g2 201 j)) (len := 1) dL_law_615 (by decide) rfl (by decide) (by decide) (by decide) ?_
  refine oz_iload dL_law_616 rfl ?_
  refine oz_i2l dL_law_618 ?_
  refine oz_lcmpS (h_eqL f2 (hv1 hk0) (hv hk0)) dL_law_619 ?_
  refine oz_ifx_eq (tgt := 625) dL_law_620 (by decide) (fun _ => ?_) (fun q => absurd rfl q)
  refine oz_goto (tgt := 2455) dL_law_625 (by decide) ?_
  exact oz_loc [(0, .ref 5000000), (1, .ref 0), (2, .ref 192), (3, .ref 201), (4, .ref 202), (5, .int (o_I ((4 * n : Nat) : Int)))] rfl (oz_mono (by omega) (by omega) (K g2 (h_xd_r hx1 f2) hmd2))
set_option maxRecDepth 100000 in
set_option maxHeartbeats 4000000 in
theorem lc_6 {l : Launch} (hl : l.stackTraces = false) {Z : o_Z} {post : o_P} {mc ms n d1 d2 : Nat} (hL : Z.2.2.2.1 ≤ 2048) (hn : 4 * n + 4 ≤ Z.2.2.2.1) (hmc : 57 ≤ mc) (hms : 12540 ≤ ms) (h1 : d1 < 16) (h2 : d2 < 16) {g M M' T T' : Nat → Nat → Int} {P P' : List (Nat → Nat → Int)} {S S' : Option (Nat → Nat → Int)} (hmd : o_md g M P S T) (k : Int) (hk : 0 ≤ k ∧ k ≤ 4) (v v2 : Int) (hv : k = 0 → v2 = v)
    (C1 : o_Ct l yL_passHours wL_passHours d1 o_no [.ref 0, .int (o_I (h_s Z (4 * n + 1))), .ref 201] o_N (o_mem g) 1 6 (h_x k 201 ((o_I v).toInt) M' P' S' T' g)) (C2 : ∀ g1, o_md g1 M P S T → o_Ct l yX12_passHours wX12_passHours d2 o_no [.ref 192, .int (o_I (h_s Z (4 * n + 1)))] o_N (o_mem g1) 0 0 (r_y k (.int (o_I v2)) M' P' S' T' g1))
    (K : ∀ g', o_xd g' M' P' S' T' → o_md g' M' P' S' T' → o_Vz Z l mL_law 16 w_al post 2455 (w_ls n) [] o_N (o_mem g') (mc - 57) (ms - 12540)) : o_Vz Z l mL_law 16 w_al post 628 (w_ls n) [] o_N (o_mem g) mc ms := by
  obtain ⟨hk1, hk2⟩ := hk
  refine oz_loc [(0, .ref 5000000), (1, .ref 0), (2, .ref 192), (3, .ref 201), (4, .ref 202), (5, .int (o_I ((4 * n : Nat) : Int)))] rfl ?_
  refine oz_aload_n dL_law_628 rfl ?_
  refine oz_aload_n dL_law_629 rfl ?_
  refine oz_iload dL_law_630 rfl ?_
  refine oz_iconst dL_law_632 ?_
  refine oz_iadd dL_law_633 ?_
  refine oz_sld (j := 4 * n + 1) (by omega) (by omega) hL dL_law_634 ?_
  refine oz_aload_n dL_law_635 rfl ?_
  refine oz_callSW [.ref 0, .int (o_I (h_s Z (4 * n + 1))), .ref 201] (rest := []) C1 (fun E n9 h9 q => by obtain ⟨q1, -⟩ := q; cases q1) dL_law_636 ml_L_170 ys_L_passHours rfl (by decide) h1 (by omega) (by omega) rfl (Nat.le_of_ble_eq_true rfl) (fun _ z => z.elim) (fun _ z => z.elim) (Or.inl fun _ z => z) (fun v9 n9 h9 q9 => ?_)
  obtain ⟨q1, rfl, g1, rfl, hx1, f1, hv1⟩ := q9
  cases q1
  refine oz_istore dL_law_639 (by decide) ?_
  refine oz_aload_n dL_law_641 rfl ?_
  refine oz_aload_n dL_law_642 rfl ?_
  refine oz_iload dL_law_643 rfl ?_
  refine oz_iconst dL_law_645 ?_
  refine oz_iadd dL_law_646 ?_
  refine oz_sld (j := 4 * n + 1) (by omega) (by omega) hL dL_law_647 ?_
  refine oz_cVm [.int (o_I (h_s Z (4 * n + 1)))] (C2 g1 (h_md_c hmd f1)) dL_law_648 ml_L_172 yw_X12_passHours rfl (by decide) h2 (by decide) rfl rfl rfl (Nat.le_of_ble_eq_true rfl) (fun g2 q2 => ?_)
  obtain ⟨e7, hmd2, f2⟩ := q2
  refine oz_istore dL_law_651 (by decide) ?_
  refine oz_aload_n dL_law_653 rfl ?_
  refine oz_cVm [] (h_thrown hl 0 g2 k e7) dL_law_654 ml_L_149 yw_X12_thrown rfl (by decide) (by decide) (by decide) rfl rfl rfl (Nat.le_of_ble_eq_true rfl) (fun g3 q3 => ?_)
  rw [q3]
  refine oz_iload dL_law_657 rfl ?_
  refine oz_icmpS (tgt := 664) dL_law_659 (by decide) ?_
  refine oz_iload dL_law_664 rfl ?_
  refine oz_ifx_ne (tgt := 681) dL_law_666 (by decide) (fun c9 => ?_) (fun c9 => ?_)
  · refine oz_goto (tgt := 2455) dL_law_681 (by decide) ?_
    exact oz_loc [(0, .ref 5000000), (1, .ref 0), (2, .ref 192), (3, .ref 201), (4, .ref 202), (5, .int (o_I ((4 * n : Nat) : Int)))] rfl (oz_mono (by omega) (by omega) (K g2 (h_xd_r hx1 f2) hmd2))
  have hk0 : k = 0 := (o_eq ⟨by omega, by omega⟩ o_R0).mp c9
  refine oz_aload_n dL_law_669 rfl ?_
  refine oz_iconst dL_law_670 ?_
  refine oz_lald (f := fun j => Int64.ofInt (g2 201 j)) (len := 1) dL_law_671 (by decide) rfl (by decide) (by decide) (by decide) ?_
  refine oz_iload dL_law_672 rfl ?_
  refine oz_i2l dL_law_674 ?_
  refine oz_lcmpS (h_eqL f2 (hv1 hk0) (hv hk0)) dL_law_675 ?_
  refine oz_ifx_eq (tgt := 681) dL_law_676 (by decide) (fun _ => ?_) (fun q => absurd rfl q)
  refine oz_goto (tgt := 2455) dL_law_681 (by decide) ?_
  exact oz_loc [(0, .ref 5000000), (1, .ref 0), (2, .ref 192), (3, .ref 201), (4, .ref 202), (5, .int (o_I ((4 * n : Nat) : Int)))] rfl (oz_mono (by omega) (by omega) (K g2 (h_xd_r hx1 f2) hmd2))
set_option maxRecDepth 100000 in
set_option maxHeartbeats 4000000 in
theorem lc_8 {l : Launch} {Z : o_Z} {post : o_P} {mc ms n d1 d2 mc1 ms1 : Nat} {al1 : Nat → Prop} (hmc : 57 ≤ mc) (hms : 12540 ≤ ms) (h1 : d1 < 16) (h2 : d2 < 16) (hm9 : mc1 ≤ 57) (hs9 : ms1 ≤ 12540) (hal : ∀ k, al1 k → k < 1000000) (hfr : (∀ k, ¬ al1 k) ∨ ((∀ q ∈ ([(0, .ref 5000000), (1, .ref 0), (2, .ref 192), (3, .ref 201), (4, .ref 202), (5, .int (o_I ((4 * n : Nat) : Int)))] : List (Nat × Value)), ∀ k, q.2 = .ref k → ¬ al1 k) ∧ ∀ v ∈ ([] : List Value), ∀ k, v = .ref k → ¬ al1 k)) {g M M' T T' : Nat → Nat → Int} {P P' : List (Nat → Nat → Int)} {S S' : Option (Nat → Nat → Int)} (hmd : o_md g M P S T) (v : Int)
    (C1 : o_Ct l yX11_shipCount wX11_shipCount d1 al1 [.ref 0] o_N (o_mem g) mc1 ms1 (x_x [] 0 (.int (o_I v)) M' P' S' T' g)) (C2 : ∀ g1, o_md g1 M P S T → o_Ct l yX12_shipCount wX12_shipCount d2 o_no [.ref 192] o_N (o_mem g1) 0 0 (r_y 0 (.int (o_I v)) M' P' S' T' g1))
    (K : ∀ g', o_xd g' M' P' S' T' → o_md g' M' P' S' T' → o_Vz Z l mL_law 16 w_al post 2455 (w_ls n) [] o_N (o_mem g') (mc - 57) (ms - 12540)) : o_Vz Z l mL_law 16 w_al post 697 (w_ls n) [] o_N (o_mem g) mc ms := by
  refine oz_loc [(0, .ref 5000000), (1, .ref 0), (2, .ref 192), (3, .ref 201), (4, .ref 202), (5, .int (o_I ((4 * n : Nat) : Int)))] rfl ?_
  refine oz_aload_n dL_law_697 rfl ?_
  refine oz_callV [] (rest := []) C1 dL_law_698 ml_L_177 yw_X11_shipCount rfl (by decide) h1 (Nat.le_trans hm9 hmc) (Nat.le_trans hs9 hms) (by decide) rfl rfl rfl (Nat.le_of_ble_eq_true rfl) hal (fun k q => hal k q) hfr (fun v9 n9 h9 q9 => ?_) (fun E n9 h9 q9 => by obtain ⟨-, -, q⟩ := q9; rcases q with ⟨-, q⟩ | ⟨E, q, -⟩; cases q; exact absurd rfl q)
  obtain ⟨rfl, ⟨g1, rfl, hx1, f1⟩, q⟩ := q9
  obtain ⟨-, q⟩ := q.resolve_right (fun z => by obtain ⟨E, z, -⟩ := z; exact absurd rfl z)
  cases q
  refine oz_aload_n dL_law_701 rfl ?_
  refine oz_cVm [] (C2 g1 (h_md_c hmd (h_x9 f1))) dL_law_702 ml_L_180 yw_X12_shipCount rfl (by decide) h2 (by decide) rfl rfl rfl (Nat.le_of_ble_eq_true rfl) (fun g2 q2 => ?_)
  obtain ⟨-, hmd2, f2⟩ := q2
  refine oz_icmpS (tgt := 2455) dL_law_705 (by decide) ?_
  exact oz_loc [(0, .ref 5000000), (1, .ref 0), (2, .ref 192), (3, .ref 201), (4, .ref 202), (5, .int (o_I ((4 * n : Nat) : Int)))] rfl (oz_mono (by omega) (by omega) (K g2 (h_xd_r hx1 f2) hmd2))
set_option maxRecDepth 100000 in
set_option maxHeartbeats 4000000 in
theorem lc_9 {l : Launch} (hl : l.stackTraces = false) {Z : o_Z} {post : o_P} {mc ms n d1 d2 : Nat} (hL : Z.2.2.2.1 ≤ 2048) (hn : 4 * n + 4 ≤ Z.2.2.2.1) (hmc : 57 ≤ mc) (hms : 12540 ≤ ms) (h1 : d1 < 16) (h2 : d2 < 16) {g M M' T T' : Nat → Nat → Int} {P P' : List (Nat → Nat → Int)} {S S' : Option (Nat → Nat → Int)} (hmd : o_md g M P S T) (k : Int) (hk : 0 ≤ k ∧ k ≤ 4) (v v2 : Int) (hv : k = 0 → v2 = v)
    (C1 : o_Ct l yL_coins wL_coins d1 o_no [.ref 0, .int (o_I (h_s Z (4 * n + 1))), .ref 201] o_N (o_mem g) 1 6 (h_x k 201 ((o_I v).toInt) M' P' S' T' g)) (C2 : ∀ g1, o_md g1 M P S T → o_Ct l yX12_coins wX12_coins d2 o_no [.ref 192, .int (o_I (h_s Z (4 * n + 1)))] o_N (o_mem g1) 0 0 (r_y k (.int (o_I v2)) M' P' S' T' g1))
    (K : ∀ g', o_xd g' M' P' S' T' → o_md g' M' P' S' T' → o_Vz Z l mL_law 16 w_al post 2455 (w_ls n) [] o_N (o_mem g') (mc - 57) (ms - 12540)) : o_Vz Z l mL_law 16 w_al post 710 (w_ls n) [] o_N (o_mem g) mc ms := by
  obtain ⟨hk1, hk2⟩ := hk
  refine oz_loc [(0, .ref 5000000), (1, .ref 0), (2, .ref 192), (3, .ref 201), (4, .ref 202), (5, .int (o_I ((4 * n : Nat) : Int)))] rfl ?_
  refine oz_aload_n dL_law_710 rfl ?_
  refine oz_aload_n dL_law_711 rfl ?_
  refine oz_iload dL_law_712 rfl ?_
  refine oz_iconst dL_law_714 ?_
  refine oz_iadd dL_law_715 ?_
  refine oz_sld (j := 4 * n + 1) (by omega) (by omega) hL dL_law_716 ?_
  refine oz_aload_n dL_law_717 rfl ?_
  refine oz_callSW [.ref 0, .int (o_I (h_s Z (4 * n + 1))), .ref 201] (rest := []) C1 (fun E n9 h9 q => by obtain ⟨q1, -⟩ := q; cases q1) dL_law_718 ml_L_181 ys_L_coins rfl (by decide) h1 (by omega) (by omega) rfl (Nat.le_of_ble_eq_true rfl) (fun _ z => z.elim) (fun _ z => z.elim) (Or.inl fun _ z => z) (fun v9 n9 h9 q9 => ?_)
  obtain ⟨q1, rfl, g1, rfl, hx1, f1, hv1⟩ := q9
  cases q1
  refine oz_istore dL_law_721 (by decide) ?_
  refine oz_aload_n dL_law_723 rfl ?_
  refine oz_aload_n dL_law_724 rfl ?_
  refine oz_iload dL_law_725 rfl ?_
  refine oz_iconst dL_law_727 ?_
  refine oz_iadd dL_law_728 ?_
  refine oz_sld (j := 4 * n + 1) (by omega) (by omega) hL dL_law_729 ?_
  refine oz_cVm [.int (o_I (h_s Z (4 * n + 1)))] (C2 g1 (h_md_c hmd f1)) dL_law_730 ml_L_183 yw_X12_coins rfl (by decide) h2 (by decide) rfl rfl rfl (Nat.le_of_ble_eq_true rfl) (fun g2 q2 => ?_)
  obtain ⟨e7, hmd2, f2⟩ := q2
  refine oz_istore dL_law_733 (by decide) ?_
  refine oz_aload_n dL_law_735 rfl ?_
  refine oz_cVm [] (h_thrown hl 0 g2 k e7) dL_law_736 ml_L_149 yw_X12_thrown rfl (by decide) (by decide) (by decide) rfl rfl rfl (Nat.le_of_ble_eq_true rfl) (fun g3 q3 => ?_)
  rw [q3]
  refine oz_iload dL_law_739 rfl ?_
  refine oz_icmpS (tgt := 746) dL_law_741 (by decide) ?_
  refine oz_iload dL_law_746 rfl ?_
  refine oz_ifx_ne (tgt := 763) dL_law_748 (by decide) (fun c9 => ?_) (fun c9 => ?_)
  · refine oz_goto (tgt := 2455) dL_law_763 (by decide) ?_
    exact oz_loc [(0, .ref 5000000), (1, .ref 0), (2, .ref 192), (3, .ref 201), (4, .ref 202), (5, .int (o_I ((4 * n : Nat) : Int)))] rfl (oz_mono (by omega) (by omega) (K g2 (h_xd_r hx1 f2) hmd2))
  have hk0 : k = 0 := (o_eq ⟨by omega, by omega⟩ o_R0).mp c9
  refine oz_aload_n dL_law_751 rfl ?_
  refine oz_iconst dL_law_752 ?_
  refine oz_lald (f := fun j => Int64.ofInt (g2 201 j)) (len := 1) dL_law_753 (by decide) rfl (by decide) (by decide) (by decide) ?_
  refine oz_iload dL_law_754 rfl ?_
  refine oz_i2l dL_law_756 ?_
  refine oz_lcmpS (h_eqL f2 (hv1 hk0) (hv hk0)) dL_law_757 ?_
  refine oz_ifx_eq (tgt := 763) dL_law_758 (by decide) (fun _ => ?_) (fun q => absurd rfl q)
  refine oz_goto (tgt := 2455) dL_law_763 (by decide) ?_
  exact oz_loc [(0, .ref 5000000), (1, .ref 0), (2, .ref 192), (3, .ref 201), (4, .ref 202), (5, .int (o_I ((4 * n : Nat) : Int)))] rfl (oz_mono (by omega) (by omega) (K g2 (h_xd_r hx1 f2) hmd2))
set_option maxRecDepth 100000 in
set_option maxHeartbeats 4000000 in
theorem lc_10 {l : Launch} (hl : l.stackTraces = false) {Z : o_Z} {post : o_P} {mc ms n d1 d2 : Nat} (hL : Z.2.2.2.1 ≤ 2048) (hn : 4 * n + 4 ≤ Z.2.2.2.1) (hmc : 57 ≤ mc) (hms : 12540 ≤ ms) (h1 : d1 < 16) (h2 : d2 < 16) {g M M' T T' : Nat → Nat → Int} {P P' : List (Nat → Nat → Int)} {S S' : Option (Nat → Nat → Int)} (hmd : o_md g M P S T) (k : Int) (hk : 0 ≤ k ∧ k ≤ 4) (v v2 : Int) (hv : k = 0 → v2 = v)
    (C1 : o_Ct l yL_finesPaid wL_finesPaid d1 o_no [.ref 0, .int (o_I (h_s Z (4 * n + 1))), .ref 201] o_N (o_mem g) 1 6 (h_x k 201 ((o_I v).toInt) M' P' S' T' g)) (C2 : ∀ g1, o_md g1 M P S T → o_Ct l yX12_finesPaid wX12_finesPaid d2 o_no [.ref 192, .int (o_I (h_s Z (4 * n + 1)))] o_N (o_mem g1) 0 0 (r_y k (.int (o_I v2)) M' P' S' T' g1))
    (K : ∀ g', o_xd g' M' P' S' T' → o_md g' M' P' S' T' → o_Vz Z l mL_law 16 w_al post 2455 (w_ls n) [] o_N (o_mem g') (mc - 57) (ms - 12540)) : o_Vz Z l mL_law 16 w_al post 766 (w_ls n) [] o_N (o_mem g) mc ms := by
  obtain ⟨hk1, hk2⟩ := hk
  refine oz_loc [(0, .ref 5000000), (1, .ref 0), (2, .ref 192), (3, .ref 201), (4, .ref 202), (5, .int (o_I ((4 * n : Nat) : Int)))] rfl ?_
  refine oz_aload_n dL_law_766 rfl ?_
  refine oz_aload_n dL_law_767 rfl ?_
  refine oz_iload dL_law_768 rfl ?_
  refine oz_iconst dL_law_770 ?_
  refine oz_iadd dL_law_771 ?_
  refine oz_sld (j := 4 * n + 1) (by omega) (by omega) hL dL_law_772 ?_
  refine oz_aload_n dL_law_773 rfl ?_
  refine oz_callSW [.ref 0, .int (o_I (h_s Z (4 * n + 1))), .ref 201] (rest := []) C1 (fun E n9 h9 q => by obtain ⟨q1, -⟩ := q; cases q1) dL_law_774 ml_L_184 ys_L_finesPaid rfl (by decide) h1 (by omega) (by omega) rfl (Nat.le_of_ble_eq_true rfl) (fun _ z => z.elim) (fun _ z => z.elim) (Or.inl fun _ z => z) (fun v9 n9 h9 q9 => ?_)
  obtain ⟨q1, rfl, g1, rfl, hx1, f1, hv1⟩ := q9
  cases q1
  refine oz_istore dL_law_777 (by decide) ?_
  refine oz_aload_n dL_law_779 rfl ?_
  refine oz_aload_n dL_law_780 rfl ?_
  refine oz_iload dL_law_781 rfl ?_
  refine oz_iconst dL_law_783 ?_
  refine oz_iadd dL_law_784 ?_
  refine oz_sld (j := 4 * n + 1) (by omega) (by omega) hL dL_law_785 ?_
  refine oz_cVm [.int (o_I (h_s Z (4 * n + 1)))] (C2 g1 (h_md_c hmd f1)) dL_law_786 ml_L_186 yw_X12_finesPaid rfl (by decide) h2 (by decide) rfl rfl rfl (Nat.le_of_ble_eq_true rfl) (fun g2 q2 => ?_)
  obtain ⟨e7, hmd2, f2⟩ := q2
  refine oz_istore dL_law_789 (by decide) ?_
  refine oz_aload_n dL_law_791 rfl ?_
  refine oz_cVm [] (h_thrown hl 0 g2 k e7) dL_law_792 ml_L_149 yw_X12_thrown rfl (by decide) (by decide) (by decide) rfl rfl rfl (Nat.le_of_ble_eq_true rfl) (fun g3 q3 => ?_)
  rw [q3]
  refine oz_iload dL_law_795 rfl ?_
  refine oz_icmpS (tgt := 802) dL_law_797 (by decide) ?_
  refine oz_iload dL_law_802 rfl ?_
  refine oz_ifx_ne (tgt := 819) dL_law_804 (by decide) (fun c9 => ?_) (fun c9 => ?_)
  · refine oz_goto (tgt := 2455) dL_law_819 (by decide) ?_
    exact oz_loc [(0, .ref 5000000), (1, .ref 0), (2, .ref 192), (3, .ref 201), (4, .ref 202), (5, .int (o_I ((4 * n : Nat) : Int)))] rfl (oz_mono (by omega) (by omega) (K g2 (h_xd_r hx1 f2) hmd2))
  have hk0 : k = 0 := (o_eq ⟨by omega, by omega⟩ o_R0).mp c9
  refine oz_aload_n dL_law_807 rfl ?_
  refine oz_iconst dL_law_808 ?_
  refine oz_lald (f := fun j => Int64.ofInt (g2 201 j)) (len := 1) dL_law_809 (by decide) rfl (by decide) (by decide) (by decide) ?_
  refine oz_iload dL_law_810 rfl ?_
  refine oz_i2l dL_law_812 ?_
  refine oz_lcmpS (h_eqL f2 (hv1 hk0) (hv hk0)) dL_law_813 ?_
  refine oz_ifx_eq (tgt := 819) dL_law_814 (by decide) (fun _ => ?_) (fun q => absurd rfl q)
  refine oz_goto (tgt := 2455) dL_law_819 (by decide) ?_
  exact oz_loc [(0, .ref 5000000), (1, .ref 0), (2, .ref 192), (3, .ref 201), (4, .ref 202), (5, .int (o_I ((4 * n : Nat) : Int)))] rfl (oz_mono (by omega) (by omega) (K g2 (h_xd_r hx1 f2) hmd2))
set_option maxRecDepth 100000 in
set_option maxHeartbeats 4000000 in
theorem lc_11 {l : Launch} (hl : l.stackTraces = false) {Z : o_Z} {post : o_P} {mc ms n d1 d2 : Nat} (hL : Z.2.2.2.1 ≤ 2048) (hn : 4 * n + 4 ≤ Z.2.2.2.1) (hmc : 57 ≤ mc) (hms : 12540 ≤ ms) (h1 : d1 < 16) (h2 : d2 < 16) {g M M' T T' : Nat → Nat → Int} {P P' : List (Nat → Nat → Int)} {S S' : Option (Nat → Nat → Int)} (hmd : o_md g M P S T) (k : Int) (hk : 0 ≤ k ∧ k ≤ 4) (v v2 : Int) (hv : k = 0 → v2 = v)
    (C1 : o_Ct l yL_darkHours wL_darkHours d1 o_no [.ref 0, .int (o_I (h_s Z (4 * n + 1))), .ref 201] o_N (o_mem g) 1 6 (h_x k 201 ((o_I v).toInt) M' P' S' T' g)) (C2 : ∀ g1, o_md g1 M P S T → o_Ct l yX12_darkHours wX12_darkHours d2 o_no [.ref 192, .int (o_I (h_s Z (4 * n + 1)))] o_N (o_mem g1) 0 0 (r_y k (.int (o_I v2)) M' P' S' T' g1))
    (K : ∀ g', o_xd g' M' P' S' T' → o_md g' M' P' S' T' → o_Vz Z l mL_law 16 w_al post 2455 (w_ls n) [] o_N (o_mem g') (mc - 57) (ms - 12540)) : o_Vz Z l mL_law 16 w_al post 822 (w_ls n) [] o_N (o_mem g) mc ms := by
  obtain ⟨hk1, hk2⟩ := hk
  refine oz_loc [(0, .ref 5000000), (1, .ref 0), (2, .ref 192), (3, .ref 201), (4, .ref 202), (5, .int (o_I ((4 * n : Nat) : Int)))] rfl ?_
  refine oz_aload_n dL_law_822 rfl ?_
  refine oz_aload_n dL_law_823 rfl ?_
  refine oz_iload dL_law_824 rfl ?_
  refine oz_iconst dL_law_826 ?_
  refine oz_iadd dL_law_827 ?_
  refine oz_sld (j := 4 * n + 1) (by omega) (by omega) hL dL_law_828 ?_
  refine oz_aload_n dL_law_829 rfl ?_
  refine oz_callSW [.ref 0, .int (o_I (h_s Z (4 * n + 1))), .ref 201] (rest := []) C1 (fun E n9 h9 q => by obtain ⟨q1, -⟩ := q; cases q1) dL_law_830 ml_L_187 ys_L_darkHours rfl (by decide) h1 (by omega) (by omega) rfl (Nat.le_of_ble_eq_true rfl) (fun _ z => z.elim) (fun _ z => z.elim) (Or.inl fun _ z => z) (fun v9 n9 h9 q9 => ?_)
  obtain ⟨q1, rfl, g1, rfl, hx1, f1, hv1⟩ := q9
  cases q1
  refine oz_istore dL_law_833 (by decide) ?_
  refine oz_aload_n dL_law_835 rfl ?_
  refine oz_aload_n dL_law_836 rfl ?_
  refine oz_iload dL_law_837 rfl ?_
  refine oz_iconst dL_law_839 ?_
  refine oz_iadd dL_law_840 ?_
  refine oz_sld (j := 4 * n + 1) (by omega) (by omega) hL dL_law_841 ?_
  refine oz_cVm [.int (o_I (h_s Z (4 * n + 1)))] (C2 g1 (h_md_c hmd f1)) dL_law_842 ml_L_189 yw_X12_darkHours rfl (by decide) h2 (by decide) rfl rfl rfl (Nat.le_of_ble_eq_true rfl) (fun g2 q2 => ?_)
  obtain ⟨e7, hmd2, f2⟩ := q2
  refine oz_istore dL_law_845 (by decide) ?_
  refine oz_aload_n dL_law_847 rfl ?_
  refine oz_cVm [] (h_thrown hl 0 g2 k e7) dL_law_848 ml_L_149 yw_X12_thrown rfl (by decide) (by decide) (by decide) rfl rfl rfl (Nat.le_of_ble_eq_true rfl) (fun g3 q3 => ?_)
  rw [q3]
  refine oz_iload dL_law_851 rfl ?_
  refine oz_icmpS (tgt := 858) dL_law_853 (by decide) ?_
  refine oz_iload dL_law_858 rfl ?_
  refine oz_ifx_ne (tgt := 875) dL_law_860 (by decide) (fun c9 => ?_) (fun c9 => ?_)
  · refine oz_goto (tgt := 2455) dL_law_875 (by decide) ?_
    exact oz_loc [(0, .ref 5000000), (1, .ref 0), (2, .ref 192), (3, .ref 201), (4, .ref 202), (5, .int (o_I ((4 * n : Nat) : Int)))] rfl (oz_mono (by omega) (by omega) (K g2 (h_xd_r hx1 f2) hmd2))
  have hk0 : k = 0 := (o_eq ⟨by omega, by omega⟩ o_R0).mp c9
  refine oz_aload_n dL_law_863 rfl ?_
  refine oz_iconst dL_law_864 ?_
  refine oz_lald (f := fun j => Int64.ofInt (g2 201 j)) (len := 1) dL_law_865 (by decide) rfl (by decide) (by decide) (by decide) ?_
  refine oz_iload dL_law_866 rfl ?_
  refine oz_i2l dL_law_868 ?_
  refine oz_lcmpS (h_eqL f2 (hv1 hk0) (hv hk0)) dL_law_869 ?_
  refine oz_ifx_eq (tgt := 875) dL_law_870 (by decide) (fun _ => ?_) (fun q => absurd rfl q)
  refine oz_goto (tgt := 2455) dL_law_875 (by decide) ?_
  exact oz_loc [(0, .ref 5000000), (1, .ref 0), (2, .ref 192), (3, .ref 201), (4, .ref 202), (5, .int (o_I ((4 * n : Nat) : Int)))] rfl (oz_mono (by omega) (by omega) (K g2 (h_xd_r hx1 f2) hmd2))
set_option maxRecDepth 100000 in
set_option maxHeartbeats 4000000 in
theorem lc_12 {l : Launch} (hl : l.stackTraces = false) {Z : o_Z} {post : o_P} {mc ms n d1 d2 : Nat} (hL : Z.2.2.2.1 ≤ 2048) (hn : 4 * n + 4 ≤ Z.2.2.2.1) (hmc : 57 ≤ mc) (hms : 12540 ≤ ms) (h1 : d1 < 16) (h2 : d2 < 16) {g M M' T T' : Nat → Nat → Int} {P P' : List (Nat → Nat → Int)} {S S' : Option (Nat → Nat → Int)} (hmd : o_md g M P S T) (k : Int) (hk : 0 ≤ k ∧ k ≤ 4) (v v2 : Int) (hv : k = 0 → v2 = v)
    (C1 : o_Ct l yL_demand wL_demand d1 o_no [.ref 0, .int (o_I (h_s Z (4 * n + 1))), .ref 201] o_N (o_mem g) 1 6 (h_x k 201 ((o_I v).toInt) M' P' S' T' g)) (C2 : ∀ g1, o_md g1 M P S T → o_Ct l yX12_demand wX12_demand d2 o_no [.ref 192, .int (o_I (h_s Z (4 * n + 1)))] o_N (o_mem g1) 0 0 (r_y k (.int (o_I v2)) M' P' S' T' g1))
    (K : ∀ g', o_xd g' M' P' S' T' → o_md g' M' P' S' T' → o_Vz Z l mL_law 16 w_al post 2455 (w_ls n) [] o_N (o_mem g') (mc - 57) (ms - 12540)) : o_Vz Z l mL_law 16 w_al post 878 (w_ls n) [] o_N (o_mem g) mc ms := by
  obtain ⟨hk1, hk2⟩ := hk
  refine oz_loc [(0, .ref 5000000), (1, .ref 0), (2, .ref 192), (3, .ref 201), (4, .ref 202), (5, .int (o_I ((4 * n : Nat) : Int)))] rfl ?_
  refine oz_aload_n dL_law_878 rfl ?_
  refine oz_aload_n dL_law_879 rfl ?_
  refine oz_iload dL_law_880 rfl ?_
  refine oz_iconst dL_law_882 ?_
  refine oz_iadd dL_law_883 ?_
  refine oz_sld (j := 4 * n + 1) (by omega) (by omega) hL dL_law_884 ?_
  refine oz_aload_n dL_law_885 rfl ?_
  refine oz_callSW [.ref 0, .int (o_I (h_s Z (4 * n + 1))), .ref 201] (rest := []) C1 (fun E n9 h9 q => by obtain ⟨q1, -⟩ := q; cases q1) dL_law_886 ml_L_190 ys_L_demand rfl (by decide) h1 (by omega) (by omega) rfl (Nat.le_of_ble_eq_true rfl) (fun _ z => z.elim) (fun _ z => z.elim) (Or.inl fun _ z => z) (fun v9 n9 h9 q9 => ?_)
  obtain ⟨q1, rfl, g1, rfl, hx1, f1, hv1⟩ := q9
  cases q1
  refine oz_istore dL_law_889 (by decide) ?_
  refine oz_aload_n dL_law_891 rfl ?_
  refine oz_aload_n dL_law_892 rfl ?_
  refine oz_iload dL_law_893 rfl ?_
  refine oz_iconst dL_law_895 ?_
  refine oz_iadd dL_law_896 ?_
  refine oz_sld (j := 4 * n + 1) (by omega) (by omega) hL dL_law_897 ?_
  refine oz_cVm [.int (o_I (h_s Z (4 * n + 1)))] (C2 g1 (h_md_c hmd f1)) dL_law_898 ml_L_192 yw_X12_demand rfl (by decide) h2 (by decide) rfl rfl rfl (Nat.le_of_ble_eq_true rfl) (fun g2 q2 => ?_)
  obtain ⟨e7, hmd2, f2⟩ := q2
  refine oz_istore dL_law_901 (by decide) ?_
  refine oz_aload_n dL_law_903 rfl ?_
  refine oz_cVm [] (h_thrown hl 0 g2 k e7) dL_law_904 ml_L_149 yw_X12_thrown rfl (by decide) (by decide) (by decide) rfl rfl rfl (Nat.le_of_ble_eq_true rfl) (fun g3 q3 => ?_)
  rw [q3]
  refine oz_iload dL_law_907 rfl ?_
  refine oz_icmpS (tgt := 914) dL_law_909 (by decide) ?_
  refine oz_iload dL_law_914 rfl ?_
  refine oz_ifx_ne (tgt := 931) dL_law_916 (by decide) (fun c9 => ?_) (fun c9 => ?_)
  · refine oz_goto (tgt := 2455) dL_law_931 (by decide) ?_
    exact oz_loc [(0, .ref 5000000), (1, .ref 0), (2, .ref 192), (3, .ref 201), (4, .ref 202), (5, .int (o_I ((4 * n : Nat) : Int)))] rfl (oz_mono (by omega) (by omega) (K g2 (h_xd_r hx1 f2) hmd2))
  have hk0 : k = 0 := (o_eq ⟨by omega, by omega⟩ o_R0).mp c9
  refine oz_aload_n dL_law_919 rfl ?_
  refine oz_iconst dL_law_920 ?_
  refine oz_lald (f := fun j => Int64.ofInt (g2 201 j)) (len := 1) dL_law_921 (by decide) rfl (by decide) (by decide) (by decide) ?_
  refine oz_iload dL_law_922 rfl ?_
  refine oz_i2l dL_law_924 ?_
  refine oz_lcmpS (h_eqL f2 (hv1 hk0) (hv hk0)) dL_law_925 ?_
  refine oz_ifx_eq (tgt := 931) dL_law_926 (by decide) (fun _ => ?_) (fun q => absurd rfl q)
  refine oz_goto (tgt := 2455) dL_law_931 (by decide) ?_
  exact oz_loc [(0, .ref 5000000), (1, .ref 0), (2, .ref 192), (3, .ref 201), (4, .ref 202), (5, .int (o_I ((4 * n : Nat) : Int)))] rfl (oz_mono (by omega) (by omega) (K g2 (h_xd_r hx1 f2) hmd2))
set_option maxRecDepth 100000 in
set_option maxHeartbeats 4000000 in
theorem lc_13 {l : Launch} (hl : l.stackTraces = false) {Z : o_Z} {post : o_P} {mc ms n d1 d2 : Nat} (hL : Z.2.2.2.1 ≤ 2048) (hn : 4 * n + 4 ≤ Z.2.2.2.1) (hmc : 57 ≤ mc) (hms : 12540 ≤ ms) (h1 : d1 < 16) (h2 : d2 < 16) {g M M' T T' : Nat → Nat → Int} {P P' : List (Nat → Nat → Int)} {S S' : Option (Nat → Nat → Int)} (hmd : o_md g M P S T) (k : Int) (hk : 0 ≤ k ∧ k ≤ 4) (v v2 : Int) (hv : k = 0 → v2 = v)
    (C1 : o_Ct l yL_leasesOf wL_leasesOf d1 o_no [.ref 0, .int (o_I (h_s Z (4 * n + 1))), .ref 201] o_N (o_mem g) 1 6 (h_x k 201 ((o_I v).toInt) M' P' S' T' g)) (C2 : ∀ g1, o_md g1 M P S T → o_Ct l yX12_leasesOf wX12_leasesOf d2 o_no [.ref 192, .int (o_I (h_s Z (4 * n + 1)))] o_N (o_mem g1) 0 0 (r_y k (.int (o_I v2)) M' P' S' T' g1))
    (K : ∀ g', o_xd g' M' P' S' T' → o_md g' M' P' S' T' → o_Vz Z l mL_law 16 w_al post 2455 (w_ls n) [] o_N (o_mem g') (mc - 57) (ms - 12540)) : o_Vz Z l mL_law 16 w_al post 934 (w_ls n) [] o_N (o_mem g) mc ms := by
  obtain ⟨hk1, hk2⟩ := hk
  refine oz_loc [(0, .ref 5000000), (1, .ref 0), (2, .ref 192), (3, .ref 201), (4, .ref 202), (5, .int (o_I ((4 * n : Nat) : Int)))] rfl ?_
  refine oz_aload_n dL_law_934 rfl ?_
  refine oz_aload_n dL_law_935 rfl ?_
  refine oz_iload dL_law_936 rfl ?_
  refine oz_iconst dL_law_938 ?_
  refine oz_iadd dL_law_939 ?_
  refine oz_sld (j := 4 * n + 1) (by omega) (by omega) hL dL_law_940 ?_
  refine oz_aload_n dL_law_941 rfl ?_
  refine oz_callSW [.ref 0, .int (o_I (h_s Z (4 * n + 1))), .ref 201] (rest := []) C1 (fun E n9 h9 q => by obtain ⟨q1, -⟩ := q; cases q1) dL_law_942 ml_L_193 ys_L_leasesOf rfl (by decide) h1 (by omega) (by omega) rfl (Nat.le_of_ble_eq_true rfl) (fun _ z => z.elim) (fun _ z => z.elim) (Or.inl fun _ z => z) (fun v9 n9 h9 q9 => ?_)
  obtain ⟨q1, rfl, g1, rfl, hx1, f1, hv1⟩ := q9
  cases q1
  refine oz_istore dL_law_945 (by decide) ?_
  refine oz_aload_n dL_law_947 rfl ?_
  refine oz_aload_n dL_law_948 rfl ?_
  refine oz_iload dL_law_949 rfl ?_
  refine oz_iconst dL_law_951 ?_
  refine oz_iadd dL_law_952 ?_
  refine oz_sld (j := 4 * n + 1) (by omega) (by omega) hL dL_law_953 ?_
  refine oz_cVm [.int (o_I (h_s Z (4 * n + 1)))] (C2 g1 (h_md_c hmd f1)) dL_law_954 ml_L_195 yw_X12_leasesOf rfl (by decide) h2 (by decide) rfl rfl rfl (Nat.le_of_ble_eq_true rfl) (fun g2 q2 => ?_)
  obtain ⟨e7, hmd2, f2⟩ := q2
  refine oz_istore dL_law_957 (by decide) ?_
  refine oz_aload_n dL_law_959 rfl ?_
  refine oz_cVm [] (h_thrown hl 0 g2 k e7) dL_law_960 ml_L_149 yw_X12_thrown rfl (by decide) (by decide) (by decide) rfl rfl rfl (Nat.le_of_ble_eq_true rfl) (fun g3 q3 => ?_)
  rw [q3]
  refine oz_iload dL_law_963 rfl ?_
  refine oz_icmpS (tgt := 970) dL_law_965 (by decide) ?_
  refine oz_iload dL_law_970 rfl ?_
  refine oz_ifx_ne (tgt := 987) dL_law_972 (by decide) (fun c9 => ?_) (fun c9 => ?_)
  · refine oz_goto (tgt := 2455) dL_law_987 (by decide) ?_
    exact oz_loc [(0, .ref 5000000), (1, .ref 0), (2, .ref 192), (3, .ref 201), (4, .ref 202), (5, .int (o_I ((4 * n : Nat) : Int)))] rfl (oz_mono (by omega) (by omega) (K g2 (h_xd_r hx1 f2) hmd2))
  have hk0 : k = 0 := (o_eq ⟨by omega, by omega⟩ o_R0).mp c9
  refine oz_aload_n dL_law_975 rfl ?_
  refine oz_iconst dL_law_976 ?_
  refine oz_lald (f := fun j => Int64.ofInt (g2 201 j)) (len := 1) dL_law_977 (by decide) rfl (by decide) (by decide) (by decide) ?_
  refine oz_iload dL_law_978 rfl ?_
  refine oz_i2l dL_law_980 ?_
  refine oz_lcmpS (h_eqL f2 (hv1 hk0) (hv hk0)) dL_law_981 ?_
  refine oz_ifx_eq (tgt := 987) dL_law_982 (by decide) (fun _ => ?_) (fun q => absurd rfl q)
  refine oz_goto (tgt := 2455) dL_law_987 (by decide) ?_
  exact oz_loc [(0, .ref 5000000), (1, .ref 0), (2, .ref 192), (3, .ref 201), (4, .ref 202), (5, .int (o_I ((4 * n : Nat) : Int)))] rfl (oz_mono (by omega) (by omega) (K g2 (h_xd_r hx1 f2) hmd2))
set_option maxRecDepth 100000 in
set_option maxHeartbeats 4000000 in
theorem lc_14 {l : Launch} {Z : o_Z} {post : o_P} {mc ms n d1 d2 mc1 ms1 : Nat} {al1 : Nat → Prop} (hmc : 57 ≤ mc) (hms : 12540 ≤ ms) (h1 : d1 < 16) (h2 : d2 < 16) (hm9 : mc1 ≤ 57) (hs9 : ms1 ≤ 12540) (hal : ∀ k, al1 k → k < 1000000) (hfr : (∀ k, ¬ al1 k) ∨ ((∀ q ∈ ([(0, .ref 5000000), (1, .ref 0), (2, .ref 192), (3, .ref 201), (4, .ref 202), (5, .int (o_I ((4 * n : Nat) : Int)))] : List (Nat × Value)), ∀ k, q.2 = .ref k → ¬ al1 k) ∧ ∀ v ∈ ([] : List Value), ∀ k, v = .ref k → ¬ al1 k)) {g M M' T T' : Nat → Nat → Int} {P P' : List (Nat → Nat → Int)} {S S' : Option (Nat → Nat → Int)} (hmd : o_md g M P S T) (v : Int)
    (C1 : o_Ct l yX11_lampCount wX11_lampCount d1 al1 [.ref 0] o_N (o_mem g) mc1 ms1 (x_x [] 0 (.int (o_I v)) M' P' S' T' g)) (C2 : ∀ g1, o_md g1 M P S T → o_Ct l yX12_lampCount wX12_lampCount d2 o_no [.ref 192] o_N (o_mem g1) 0 0 (r_y 0 (.int (o_I v)) M' P' S' T' g1))
    (K : ∀ g', o_xd g' M' P' S' T' → o_md g' M' P' S' T' → o_Vz Z l mL_law 16 w_al post 2455 (w_ls n) [] o_N (o_mem g') (mc - 57) (ms - 12540)) : o_Vz Z l mL_law 16 w_al post 990 (w_ls n) [] o_N (o_mem g) mc ms := by
  refine oz_loc [(0, .ref 5000000), (1, .ref 0), (2, .ref 192), (3, .ref 201), (4, .ref 202), (5, .int (o_I ((4 * n : Nat) : Int)))] rfl ?_
  refine oz_aload_n dL_law_990 rfl ?_
  refine oz_callV [] (rest := []) C1 dL_law_991 ml_L_196 yw_X11_lampCount rfl (by decide) h1 (Nat.le_trans hm9 hmc) (Nat.le_trans hs9 hms) (by decide) rfl rfl rfl (Nat.le_of_ble_eq_true rfl) hal (fun k q => hal k q) hfr (fun v9 n9 h9 q9 => ?_) (fun E n9 h9 q9 => by obtain ⟨-, -, q⟩ := q9; rcases q with ⟨-, q⟩ | ⟨E, q, -⟩; cases q; exact absurd rfl q)
  obtain ⟨rfl, ⟨g1, rfl, hx1, f1⟩, q⟩ := q9
  obtain ⟨-, q⟩ := q.resolve_right (fun z => by obtain ⟨E, z, -⟩ := z; exact absurd rfl z)
  cases q
  refine oz_aload_n dL_law_994 rfl ?_
  refine oz_cVm [] (C2 g1 (h_md_c hmd (h_x9 f1))) dL_law_995 ml_L_199 yw_X12_lampCount rfl (by decide) h2 (by decide) rfl rfl rfl (Nat.le_of_ble_eq_true rfl) (fun g2 q2 => ?_)
  obtain ⟨-, hmd2, f2⟩ := q2
  refine oz_icmpS (tgt := 2455) dL_law_998 (by decide) ?_
  exact oz_loc [(0, .ref 5000000), (1, .ref 0), (2, .ref 192), (3, .ref 201), (4, .ref 202), (5, .int (o_I ((4 * n : Nat) : Int)))] rfl (oz_mono (by omega) (by omega) (K g2 (h_xd_r hx1 f2) hmd2))
set_option maxRecDepth 100000 in
set_option maxHeartbeats 4000000 in
theorem lc_15 {l : Launch} (hl : l.stackTraces = false) {Z : o_Z} {post : o_P} {mc ms n d1 d2 : Nat} (hL : Z.2.2.2.1 ≤ 2048) (hn : 4 * n + 4 ≤ Z.2.2.2.1) (hmc : 57 ≤ mc) (hms : 12540 ≤ ms) (h1 : d1 < 16) (h2 : d2 < 16) {g M M' T T' : Nat → Nat → Int} {P P' : List (Nat → Nat → Int)} {S S' : Option (Nat → Nat → Int)} (hmd : o_md g M P S T) (k : Int) (hk : 0 ≤ k ∧ k ≤ 4) (v v2 : Int) (hv : k = 0 → v2 = v)
    (C1 : o_Ct l yL_level wL_level d1 o_no [.ref 0, .int (o_I (h_s Z (4 * n + 1))), .ref 201] o_N (o_mem g) 1 6 (h_x k 201 ((o_I v).toInt) M' P' S' T' g)) (C2 : ∀ g1, o_md g1 M P S T → o_Ct l yX12_level wX12_level d2 o_no [.ref 192, .int (o_I (h_s Z (4 * n + 1)))] o_N (o_mem g1) 0 0 (r_y k (.int (o_I v2)) M' P' S' T' g1))
    (K : ∀ g', o_xd g' M' P' S' T' → o_md g' M' P' S' T' → o_Vz Z l mL_law 16 w_al post 2455 (w_ls n) [] o_N (o_mem g') (mc - 57) (ms - 12540)) : o_Vz Z l mL_law 16 w_al post 1003 (w_ls n) [] o_N (o_mem g) mc ms := by
  obtain ⟨hk1, hk2⟩ := hk
  refine oz_loc [(0, .ref 5000000), (1, .ref 0), (2, .ref 192), (3, .ref 201), (4, .ref 202), (5, .int (o_I ((4 * n : Nat) : Int)))] rfl ?_
  refine oz_aload_n dL_law_1003 rfl ?_
  refine oz_aload_n dL_law_1004 rfl ?_
  refine oz_iload dL_law_1005 rfl ?_
  refine oz_iconst dL_law_1007 ?_
  refine oz_iadd dL_law_1008 ?_
  refine oz_sld (j := 4 * n + 1) (by omega) (by omega) hL dL_law_1009 ?_
  refine oz_aload_n dL_law_1010 rfl ?_
  refine oz_callSW [.ref 0, .int (o_I (h_s Z (4 * n + 1))), .ref 201] (rest := []) C1 (fun E n9 h9 q => by obtain ⟨q1, -⟩ := q; cases q1) dL_law_1011 ml_L_200 ys_L_level rfl (by decide) h1 (by omega) (by omega) rfl (Nat.le_of_ble_eq_true rfl) (fun _ z => z.elim) (fun _ z => z.elim) (Or.inl fun _ z => z) (fun v9 n9 h9 q9 => ?_)
  obtain ⟨q1, rfl, g1, rfl, hx1, f1, hv1⟩ := q9
  cases q1
  refine oz_istore dL_law_1014 (by decide) ?_
  refine oz_aload_n dL_law_1016 rfl ?_
  refine oz_aload_n dL_law_1017 rfl ?_
  refine oz_iload dL_law_1018 rfl ?_
  refine oz_iconst dL_law_1020 ?_
  refine oz_iadd dL_law_1021 ?_
  refine oz_sld (j := 4 * n + 1) (by omega) (by omega) hL dL_law_1022 ?_
  refine oz_cVm [.int (o_I (h_s Z (4 * n + 1)))] (C2 g1 (h_md_c hmd f1)) dL_law_1023 ml_L_202 yw_X12_level rfl (by decide) h2 (by decide) rfl rfl rfl (Nat.le_of_ble_eq_true rfl) (fun g2 q2 => ?_)
  obtain ⟨e7, hmd2, f2⟩ := q2
  refine oz_istore dL_law_1026 (by decide) ?_
  refine oz_aload_n dL_law_1028 rfl ?_
  refine oz_cVm [] (h_thrown hl 0 g2 k e7) dL_law_1029 ml_L_149 yw_X12_thrown rfl (by decide) (by decide) (by decide) rfl rfl rfl (Nat.le_of_ble_eq_true rfl) (fun g3 q3 => ?_)
  rw [q3]
  refine oz_iload dL_law_1032 rfl ?_
  refine oz_icmpS (tgt := 1039) dL_law_1034 (by decide) ?_
  refine oz_iload dL_law_1039 rfl ?_
  refine oz_ifx_ne (tgt := 1056) dL_law_1041 (by decide) (fun c9 => ?_) (fun c9 => ?_)
  · refine oz_goto (tgt := 2455) dL_law_1056 (by decide) ?_
    exact oz_loc [(0, .ref 5000000), (1, .ref 0), (2, .ref 192), (3, .ref 201), (4, .ref 202), (5, .int (o_I ((4 * n : Nat) : Int)))] rfl (oz_mono (by omega) (by omega) (K g2 (h_xd_r hx1 f2) hmd2))
  have hk0 : k = 0 := (o_eq ⟨by omega, by omega⟩ o_R0).mp c9
  refine oz_aload_n dL_law_1044 rfl ?_
  refine oz_iconst dL_law_1045 ?_
  refine oz_lald (f := fun j => Int64.ofInt (g2 201 j)) (len := 1) dL_law_1046 (by decide) rfl (by decide) (by decide) (by decide) ?_
  refine oz_iload dL_law_1047 rfl ?_
  refine oz_i2l dL_law_1049 ?_
  refine oz_lcmpS (h_eqL f2 (hv1 hk0) (hv hk0)) dL_law_1050 ?_
  refine oz_ifx_eq (tgt := 1056) dL_law_1051 (by decide) (fun _ => ?_) (fun q => absurd rfl q)
  refine oz_goto (tgt := 2455) dL_law_1056 (by decide) ?_
  exact oz_loc [(0, .ref 5000000), (1, .ref 0), (2, .ref 192), (3, .ref 201), (4, .ref 202), (5, .int (o_I ((4 * n : Nat) : Int)))] rfl (oz_mono (by omega) (by omega) (K g2 (h_xd_r hx1 f2) hmd2))
set_option maxRecDepth 100000 in
set_option maxHeartbeats 4000000 in
theorem lc_17 {l : Launch} (hl : l.stackTraces = false) {Z : o_Z} {post : o_P} {mc ms n d1 d2 : Nat} (hL : Z.2.2.2.1 ≤ 2048) (hn : 4 * n + 4 ≤ Z.2.2.2.1) (hmc : 57 ≤ mc) (hms : 12540 ≤ ms) (h1 : d1 < 16) (h2 : d2 < 16) {g M M' T T' : Nat → Nat → Int} {P P' : List (Nat → Nat → Int)} {S S' : Option (Nat → Nat → Int)} (hmd : o_md g M P S T) (k : Int) (hk : 0 ≤ k ∧ k ≤ 4) (v v2 : Int) (hv : k = 0 → v2 = v)
    (C1 : o_Ct l yL_lessee wL_lessee d1 o_no [.ref 0, .int (o_I (h_s Z (4 * n + 1))), .ref 201] o_N (o_mem g) 1 6 (h_x k 201 ((o_I v).toInt) M' P' S' T' g)) (C2 : ∀ g1, o_md g1 M P S T → o_Ct l yX12_lessee wX12_lessee d2 o_no [.ref 192, .int (o_I (h_s Z (4 * n + 1)))] o_N (o_mem g1) 0 0 (r_y k (.int (o_I v2)) M' P' S' T' g1))
    (K : ∀ g', o_xd g' M' P' S' T' → o_md g' M' P' S' T' → o_Vz Z l mL_law 16 w_al post 2455 (w_ls n) [] o_N (o_mem g') (mc - 57) (ms - 12540)) : o_Vz Z l mL_law 16 w_al post 1122 (w_ls n) [] o_N (o_mem g) mc ms := by
  obtain ⟨hk1, hk2⟩ := hk
  refine oz_loc [(0, .ref 5000000), (1, .ref 0), (2, .ref 192), (3, .ref 201), (4, .ref 202), (5, .int (o_I ((4 * n : Nat) : Int)))] rfl ?_
  refine oz_aload_n dL_law_1122 rfl ?_
  refine oz_aload_n dL_law_1123 rfl ?_
  refine oz_iload dL_law_1124 rfl ?_
  refine oz_iconst dL_law_1126 ?_
  refine oz_iadd dL_law_1127 ?_
  refine oz_sld (j := 4 * n + 1) (by omega) (by omega) hL dL_law_1128 ?_
  refine oz_aload_n dL_law_1129 rfl ?_
  refine oz_callSW [.ref 0, .int (o_I (h_s Z (4 * n + 1))), .ref 201] (rest := []) C1 (fun E n9 h9 q => by obtain ⟨q1, -⟩ := q; cases q1) dL_law_1130 ml_L_206 ys_L_lessee rfl (by decide) h1 (by omega) (by omega) rfl (Nat.le_of_ble_eq_true rfl) (fun _ z => z.elim) (fun _ z => z.elim) (Or.inl fun _ z => z) (fun v9 n9 h9 q9 => ?_)
  obtain ⟨q1, rfl, g1, rfl, hx1, f1, hv1⟩ := q9
  cases q1
  refine oz_istore dL_law_1133 (by decide) ?_
  refine oz_aload_n dL_law_1135 rfl ?_
  refine oz_aload_n dL_law_1136 rfl ?_
  refine oz_iload dL_law_1137 rfl ?_
  refine oz_iconst dL_law_1139 ?_
  refine oz_iadd dL_law_1140 ?_
  refine oz_sld (j := 4 * n + 1) (by omega) (by omega) hL dL_law_1141 ?_
  refine oz_cVm [.int (o_I (h_s Z (4 * n + 1)))] (C2 g1 (h_md_c hmd f1)) dL_law_1142 ml_L_208 yw_X12_lessee rfl (by decide) h2 (by decide) rfl rfl rfl (Nat.le_of_ble_eq_true rfl) (fun g2 q2 => ?_)
  obtain ⟨e7, hmd2, f2⟩ := q2
  refine oz_istore dL_law_1145 (by decide) ?_
  refine oz_aload_n dL_law_1147 rfl ?_
  refine oz_cVm [] (h_thrown hl 0 g2 k e7) dL_law_1148 ml_L_149 yw_X12_thrown rfl (by decide) (by decide) (by decide) rfl rfl rfl (Nat.le_of_ble_eq_true rfl) (fun g3 q3 => ?_)
  rw [q3]
  refine oz_iload dL_law_1151 rfl ?_
  refine oz_icmpS (tgt := 1158) dL_law_1153 (by decide) ?_
  refine oz_iload dL_law_1158 rfl ?_
  refine oz_ifx_ne (tgt := 1175) dL_law_1160 (by decide) (fun c9 => ?_) (fun c9 => ?_)
  · refine oz_goto (tgt := 2455) dL_law_1175 (by decide) ?_
    exact oz_loc [(0, .ref 5000000), (1, .ref 0), (2, .ref 192), (3, .ref 201), (4, .ref 202), (5, .int (o_I ((4 * n : Nat) : Int)))] rfl (oz_mono (by omega) (by omega) (K g2 (h_xd_r hx1 f2) hmd2))
  have hk0 : k = 0 := (o_eq ⟨by omega, by omega⟩ o_R0).mp c9
  refine oz_aload_n dL_law_1163 rfl ?_
  refine oz_iconst dL_law_1164 ?_
  refine oz_lald (f := fun j => Int64.ofInt (g2 201 j)) (len := 1) dL_law_1165 (by decide) rfl (by decide) (by decide) (by decide) ?_
  refine oz_iload dL_law_1166 rfl ?_
  refine oz_i2l dL_law_1168 ?_
  refine oz_lcmpS (h_eqL f2 (hv1 hk0) (hv hk0)) dL_law_1169 ?_
  refine oz_ifx_eq (tgt := 1175) dL_law_1170 (by decide) (fun _ => ?_) (fun q => absurd rfl q)
  refine oz_goto (tgt := 2455) dL_law_1175 (by decide) ?_
  exact oz_loc [(0, .ref 5000000), (1, .ref 0), (2, .ref 192), (3, .ref 201), (4, .ref 202), (5, .int (o_I ((4 * n : Nat) : Int)))] rfl (oz_mono (by omega) (by omega) (K g2 (h_xd_r hx1 f2) hmd2))
set_option maxRecDepth 100000 in
set_option maxHeartbeats 4000000 in
theorem lc_18 {l : Launch} (hl : l.stackTraces = false) {Z : o_Z} {post : o_P} {mc ms n d1 d2 : Nat} (hL : Z.2.2.2.1 ≤ 2048) (hn : 4 * n + 4 ≤ Z.2.2.2.1) (hmc : 57 ≤ mc) (hms : 12540 ≤ ms) (h1 : d1 < 16) (h2 : d2 < 16) {g M M' T T' : Nat → Nat → Int} {P P' : List (Nat → Nat → Int)} {S S' : Option (Nat → Nat → Int)} (hmd : o_md g M P S T) (k : Int) (hk : 0 ≤ k ∧ k ≤ 4) (v v2 : Int) (hv : k = 0 → v2 = v)
    (C1 : o_Ct l yL_endHour wL_endHour d1 o_no [.ref 0, .int (o_I (h_s Z (4 * n + 1))), .ref 201] o_N (o_mem g) 1 6 (h_x k 201 ((o_I v).toInt) M' P' S' T' g)) (C2 : ∀ g1, o_md g1 M P S T → o_Ct l yX12_endHour wX12_endHour d2 o_no [.ref 192, .int (o_I (h_s Z (4 * n + 1)))] o_N (o_mem g1) 0 0 (r_y k (.int (o_I v2)) M' P' S' T' g1))
    (K : ∀ g', o_xd g' M' P' S' T' → o_md g' M' P' S' T' → o_Vz Z l mL_law 16 w_al post 2455 (w_ls n) [] o_N (o_mem g') (mc - 57) (ms - 12540)) : o_Vz Z l mL_law 16 w_al post 1178 (w_ls n) [] o_N (o_mem g) mc ms := by
  obtain ⟨hk1, hk2⟩ := hk
  refine oz_loc [(0, .ref 5000000), (1, .ref 0), (2, .ref 192), (3, .ref 201), (4, .ref 202), (5, .int (o_I ((4 * n : Nat) : Int)))] rfl ?_
  refine oz_aload_n dL_law_1178 rfl ?_
  refine oz_aload_n dL_law_1179 rfl ?_
  refine oz_iload dL_law_1180 rfl ?_
  refine oz_iconst dL_law_1182 ?_
  refine oz_iadd dL_law_1183 ?_
  refine oz_sld (j := 4 * n + 1) (by omega) (by omega) hL dL_law_1184 ?_
  refine oz_aload_n dL_law_1185 rfl ?_
  refine oz_callSW [.ref 0, .int (o_I (h_s Z (4 * n + 1))), .ref 201] (rest := []) C1 (fun E n9 h9 q => by obtain ⟨q1, -⟩ := q; cases q1) dL_law_1186 ml_L_209 ys_L_endHour rfl (by decide) h1 (by omega) (by omega) rfl (Nat.le_of_ble_eq_true rfl) (fun _ z => z.elim) (fun _ z => z.elim) (Or.inl fun _ z => z) (fun v9 n9 h9 q9 => ?_)
  obtain ⟨q1, rfl, g1, rfl, hx1, f1, hv1⟩ := q9
  cases q1
  refine oz_istore dL_law_1189 (by decide) ?_
  refine oz_aload_n dL_law_1191 rfl ?_
  refine oz_aload_n dL_law_1192 rfl ?_
  refine oz_iload dL_law_1193 rfl ?_
  refine oz_iconst dL_law_1195 ?_
  refine oz_iadd dL_law_1196 ?_
  refine oz_sld (j := 4 * n + 1) (by omega) (by omega) hL dL_law_1197 ?_
  refine oz_cVm [.int (o_I (h_s Z (4 * n + 1)))] (C2 g1 (h_md_c hmd f1)) dL_law_1198 ml_L_211 yw_X12_endHour rfl (by decide) h2 (by decide) rfl rfl rfl (Nat.le_of_ble_eq_true rfl) (fun g2 q2 => ?_)
  obtain ⟨e7, hmd2, f2⟩ := q2
  refine oz_istore dL_law_1201 (by decide) ?_
  refine oz_aload_n dL_law_1203 rfl ?_
  refine oz_cVm [] (h_thrown hl 0 g2 k e7) dL_law_1204 ml_L_149 yw_X12_thrown rfl (by decide) (by decide) (by decide) rfl rfl rfl (Nat.le_of_ble_eq_true rfl) (fun g3 q3 => ?_)
  rw [q3]
  refine oz_iload dL_law_1207 rfl ?_
  refine oz_icmpS (tgt := 1214) dL_law_1209 (by decide) ?_
  refine oz_iload dL_law_1214 rfl ?_
  refine oz_ifx_ne (tgt := 1231) dL_law_1216 (by decide) (fun c9 => ?_) (fun c9 => ?_)
  · refine oz_goto (tgt := 2455) dL_law_1231 (by decide) ?_
    exact oz_loc [(0, .ref 5000000), (1, .ref 0), (2, .ref 192), (3, .ref 201), (4, .ref 202), (5, .int (o_I ((4 * n : Nat) : Int)))] rfl (oz_mono (by omega) (by omega) (K g2 (h_xd_r hx1 f2) hmd2))
  have hk0 : k = 0 := (o_eq ⟨by omega, by omega⟩ o_R0).mp c9
  refine oz_aload_n dL_law_1219 rfl ?_
  refine oz_iconst dL_law_1220 ?_
  refine oz_lald (f := fun j => Int64.ofInt (g2 201 j)) (len := 1) dL_law_1221 (by decide) rfl (by decide) (by decide) (by decide) ?_
  refine oz_iload dL_law_1222 rfl ?_
  refine oz_i2l dL_law_1224 ?_
  refine oz_lcmpS (h_eqL f2 (hv1 hk0) (hv hk0)) dL_law_1225 ?_
  refine oz_ifx_eq (tgt := 1231) dL_law_1226 (by decide) (fun _ => ?_) (fun q => absurd rfl q)
  refine oz_goto (tgt := 2455) dL_law_1231 (by decide) ?_
  exact oz_loc [(0, .ref 5000000), (1, .ref 0), (2, .ref 192), (3, .ref 201), (4, .ref 202), (5, .int (o_I ((4 * n : Nat) : Int)))] rfl (oz_mono (by omega) (by omega) (K g2 (h_xd_r hx1 f2) hmd2))
set_option maxRecDepth 100000 in
set_option maxHeartbeats 4000000 in
theorem lc_19 {l : Launch} (hl : l.stackTraces = false) {Z : o_Z} {post : o_P} {mc ms n d1 d2 : Nat} (hL : Z.2.2.2.1 ≤ 2048) (hn : 4 * n + 4 ≤ Z.2.2.2.1) (hmc : 57 ≤ mc) (hms : 12540 ≤ ms) (h1 : d1 < 16) (h2 : d2 < 16) {g M M' T T' : Nat → Nat → Int} {P P' : List (Nat → Nat → Int)} {S S' : Option (Nat → Nat → Int)} (hmd : o_md g M P S T) (k : Int) (hk : 0 ≤ k ∧ k ≤ 4) (v v2 : Int) (hv : k = 0 → v2 = v)
    (C1 : o_Ct l yL_brightHours wL_brightHours d1 o_no [.ref 0, .int (o_I (h_s Z (4 * n + 1))), .ref 201] o_N (o_mem g) 1 6 (h_x k 201 ((o_I v).toInt) M' P' S' T' g)) (C2 : ∀ g1, o_md g1 M P S T → o_Ct l yX12_brightHours wX12_brightHours d2 o_no [.ref 192, .int (o_I (h_s Z (4 * n + 1)))] o_N (o_mem g1) 0 0 (r_y k (.int (o_I v2)) M' P' S' T' g1))
    (K : ∀ g', o_xd g' M' P' S' T' → o_md g' M' P' S' T' → o_Vz Z l mL_law 16 w_al post 2455 (w_ls n) [] o_N (o_mem g') (mc - 57) (ms - 12540)) : o_Vz Z l mL_law 16 w_al post 1234 (w_ls n) [] o_N (o_mem g) mc ms := by
  obtain ⟨hk1, hk2⟩ := hk
  refine oz_loc [(0, .ref 5000000), (1, .ref 0), (2, .ref 192), (3, .ref 201), (4, .ref 202), (5, .int (o_I ((4 * n : Nat) : Int)))] rfl ?_
  refine oz_aload_n dL_law_1234 rfl ?_
  refine oz_aload_n dL_law_1235 rfl ?_
  refine oz_iload dL_law_1236 rfl ?_
  refine oz_iconst dL_law_1238 ?_
  refine oz_iadd dL_law_1239 ?_
  refine oz_sld (j := 4 * n + 1) (by omega) (by omega) hL dL_law_1240 ?_
  refine oz_aload_n dL_law_1241 rfl ?_
  refine oz_callSW [.ref 0, .int (o_I (h_s Z (4 * n + 1))), .ref 201] (rest := []) C1 (fun E n9 h9 q => by obtain ⟨q1, -⟩ := q; cases q1) dL_law_1242 ml_L_212 ys_L_brightHours rfl (by decide) h1 (by omega) (by omega) rfl (Nat.le_of_ble_eq_true rfl) (fun _ z => z.elim) (fun _ z => z.elim) (Or.inl fun _ z => z) (fun v9 n9 h9 q9 => ?_)
  obtain ⟨q1, rfl, g1, rfl, hx1, f1, hv1⟩ := q9
  cases q1
  refine oz_istore dL_law_1245 (by decide) ?_
  refine oz_aload_n dL_law_1247 rfl ?_
  refine oz_aload_n dL_law_1248 rfl ?_
  refine oz_iload dL_law_1249 rfl ?_
  refine oz_iconst dL_law_1251 ?_
  refine oz_iadd dL_law_1252 ?_
  refine oz_sld (j := 4 * n + 1) (by omega) (by omega) hL dL_law_1253 ?_
  refine oz_cVm [.int (o_I (h_s Z (4 * n + 1)))] (C2 g1 (h_md_c hmd f1)) dL_law_1254 ml_L_214 yw_X12_brightHours rfl (by decide) h2 (by decide) rfl rfl rfl (Nat.le_of_ble_eq_true rfl) (fun g2 q2 => ?_)
  obtain ⟨e7, hmd2, f2⟩ := q2
  refine oz_istore dL_law_1257 (by decide) ?_
  refine oz_aload_n dL_law_1259 rfl ?_
  refine oz_cVm [] (h_thrown hl 0 g2 k e7) dL_law_1260 ml_L_149 yw_X12_thrown rfl (by decide) (by decide) (by decide) rfl rfl rfl (Nat.le_of_ble_eq_true rfl) (fun g3 q3 => ?_)
  rw [q3]
  refine oz_iload dL_law_1263 rfl ?_
  refine oz_icmpS (tgt := 1270) dL_law_1265 (by decide) ?_
  refine oz_iload dL_law_1270 rfl ?_
  refine oz_ifx_ne (tgt := 1287) dL_law_1272 (by decide) (fun c9 => ?_) (fun c9 => ?_)
  · refine oz_goto (tgt := 2455) dL_law_1287 (by decide) ?_
    exact oz_loc [(0, .ref 5000000), (1, .ref 0), (2, .ref 192), (3, .ref 201), (4, .ref 202), (5, .int (o_I ((4 * n : Nat) : Int)))] rfl (oz_mono (by omega) (by omega) (K g2 (h_xd_r hx1 f2) hmd2))
  have hk0 : k = 0 := (o_eq ⟨by omega, by omega⟩ o_R0).mp c9
  refine oz_aload_n dL_law_1275 rfl ?_
  refine oz_iconst dL_law_1276 ?_
  refine oz_lald (f := fun j => Int64.ofInt (g2 201 j)) (len := 1) dL_law_1277 (by decide) rfl (by decide) (by decide) (by decide) ?_
  refine oz_iload dL_law_1278 rfl ?_
  refine oz_i2l dL_law_1280 ?_
  refine oz_lcmpS (h_eqL f2 (hv1 hk0) (hv hk0)) dL_law_1281 ?_
  refine oz_ifx_eq (tgt := 1287) dL_law_1282 (by decide) (fun _ => ?_) (fun q => absurd rfl q)
  refine oz_goto (tgt := 2455) dL_law_1287 (by decide) ?_
  exact oz_loc [(0, .ref 5000000), (1, .ref 0), (2, .ref 192), (3, .ref 201), (4, .ref 202), (5, .int (o_I ((4 * n : Nat) : Int)))] rfl (oz_mono (by omega) (by omega) (K g2 (h_xd_r hx1 f2) hmd2))
set_option maxRecDepth 100000 in
set_option maxHeartbeats 4000000 in
theorem lc_20 {l : Launch} (hl : l.stackTraces = false) {Z : o_Z} {post : o_P} {mc ms n d1 d2 : Nat} (hL : Z.2.2.2.1 ≤ 2048) (hn : 4 * n + 4 ≤ Z.2.2.2.1) (hmc : 57 ≤ mc) (hms : 12540 ≤ ms) (h1 : d1 < 16) (h2 : d2 < 16) {g M M' T T' : Nat → Nat → Int} {P P' : List (Nat → Nat → Int)} {S S' : Option (Nat → Nat → Int)} (hmd : o_md g M P S T) (k : Int) (hk : 0 ≤ k ∧ k ≤ 4) (v v2 : Int) (hv : k = 0 → v2 = v) (hb : k = 0 → v2 = 0 ∨ v2 = 1)
    (C1 : o_Ct l yL_wasBright wL_wasBright d1 o_no [.ref 0, .int (o_I (h_s Z (4 * n + 1))), .ref 201] o_N (o_mem g) 1 6 (h_x k 201 ((o_I v).toInt) M' P' S' T' g)) (C2 : ∀ g1, o_md g1 M P S T → o_Ct l yX12_wasBright wX12_wasBright d2 o_no [.ref 192, .int (o_I (h_s Z (4 * n + 1)))] o_N (o_mem g1) 0 0 (r_y k (.int (o_I v2)) M' P' S' T' g1))
    (K : ∀ g', o_xd g' M' P' S' T' → o_md g' M' P' S' T' → o_Vz Z l mL_law 16 w_al post 2455 (w_ls n) [] o_N (o_mem g') (mc - 57) (ms - 12540)) : o_Vz Z l mL_law 16 w_al post 1290 (w_ls n) [] o_N (o_mem g) mc ms := by
  obtain ⟨hk1, hk2⟩ := hk
  refine oz_loc [(0, .ref 5000000), (1, .ref 0), (2, .ref 192), (3, .ref 201), (4, .ref 202), (5, .int (o_I ((4 * n : Nat) : Int)))] rfl ?_
  refine oz_aload_n dL_law_1290 rfl ?_
  refine oz_aload_n dL_law_1291 rfl ?_
  refine oz_iload dL_law_1292 rfl ?_
  refine oz_iconst dL_law_1294 ?_
  refine oz_iadd dL_law_1295 ?_
  refine oz_sld (j := 4 * n + 1) (by omega) (by omega) hL dL_law_1296 ?_
  refine oz_aload_n dL_law_1297 rfl ?_
  refine oz_callSW [.ref 0, .int (o_I (h_s Z (4 * n + 1))), .ref 201] (rest := []) C1 (fun E n9 h9 q => by obtain ⟨q1, -⟩ := q; cases q1) dL_law_1298 ml_L_215 ys_L_wasBright rfl (by decide) h1 (by omega) (by omega) rfl (Nat.le_of_ble_eq_true rfl) (fun _ z => z.elim) (fun _ z => z.elim) (Or.inl fun _ z => z) (fun v9 n9 h9 q9 => ?_)
  obtain ⟨q1, rfl, g1, rfl, hx1, f1, hv1⟩ := q9
  cases q1
  refine oz_istore dL_law_1301 (by decide) ?_
  refine oz_aload_n dL_law_1303 rfl ?_
  refine oz_aload_n dL_law_1304 rfl ?_
  refine oz_iload dL_law_1305 rfl ?_
  refine oz_iconst dL_law_1307 ?_
  refine oz_iadd dL_law_1308 ?_
  refine oz_sld (j := 4 * n + 1) (by omega) (by omega) hL dL_law_1309 ?_
  refine oz_cVm [.int (o_I (h_s Z (4 * n + 1)))] (C2 g1 (h_md_c hmd f1)) dL_law_1310 ml_L_217 yw_X12_wasBright rfl (by decide) h2 (by decide) rfl rfl rfl (Nat.le_of_ble_eq_true rfl) (fun g2 q2 => ?_)
  obtain ⟨e7, hmd2, f2⟩ := q2
  refine oz_istore dL_law_1313 (by decide) ?_
  refine oz_aload_n dL_law_1315 rfl ?_
  refine oz_cVm [] (h_thrown hl 0 g2 k e7) dL_law_1316 ml_L_149 yw_X12_thrown rfl (by decide) (by decide) (by decide) rfl rfl rfl (Nat.le_of_ble_eq_true rfl) (fun g3 q3 => ?_)
  rw [q3]
  refine oz_iload dL_law_1319 rfl ?_
  refine oz_icmpS (tgt := 1326) dL_law_1321 (by decide) ?_
  refine oz_iload dL_law_1326 rfl ?_
  refine oz_ifx_ne (tgt := 1350) dL_law_1328 (by decide) (fun c9 => ?_) (fun c9 => ?_)
  · refine oz_goto (tgt := 2455) dL_law_1350 (by decide) ?_
    exact oz_loc [(0, .ref 5000000), (1, .ref 0), (2, .ref 192), (3, .ref 201), (4, .ref 202), (5, .int (o_I ((4 * n : Nat) : Int)))] rfl (oz_mono (by omega) (by omega) (K g2 (h_xd_r hx1 f2) hmd2))
  have hk0 : k = 0 := (o_eq ⟨by omega, by omega⟩ o_R0).mp c9
  refine oz_aload_n dL_law_1331 rfl ?_
  refine oz_iconst dL_law_1332 ?_
  refine oz_lald (f := fun j => Int64.ofInt (g2 201 j)) (len := 1) dL_law_1333 (by decide) rfl (by decide) (by decide) (by decide) ?_
  refine oz_iload dL_law_1334 rfl ?_
  refine oz_ifx_eq (tgt := 1343) dL_law_1336 (by decide) (fun c8 => ?_) (fun c8 => ?_)
  · have e0 : v2 = 0 := (hb hk0).resolve_right (fun q => by rw [q] at c8; exact absurd c8 (by decide))
    refine oz_lconst dL_law_1343 ?_
    refine oz_lcmpS ((h_eqL f2 (hv1 hk0) (hv hk0)).trans (by rw [e0]; decide)) dL_law_1344 ?_
    refine oz_ifx_eq (tgt := 1350) dL_law_1345 (by decide) (fun _ => ?_) (fun q => absurd rfl q)
    refine oz_goto (tgt := 2455) dL_law_1350 (by decide) ?_
    exact oz_loc [(0, .ref 5000000), (1, .ref 0), (2, .ref 192), (3, .ref 201), (4, .ref 202), (5, .int (o_I ((4 * n : Nat) : Int)))] rfl (oz_mono (by omega) (by omega) (K g2 (h_xd_r hx1 f2) hmd2))
  · have e0 : v2 = 1 := (hb hk0).resolve_left (fun q => c8 (by rw [q]; rfl))
    refine oz_lconst dL_law_1339 ?_
    refine oz_goto (tgt := 1344) dL_law_1340 (by decide) ?_
    refine oz_lcmpS ((h_eqL f2 (hv1 hk0) (hv hk0)).trans (by rw [e0]; decide)) dL_law_1344 ?_
    refine oz_ifx_eq (tgt := 1350) dL_law_1345 (by decide) (fun _ => ?_) (fun q => absurd rfl q)
    refine oz_goto (tgt := 2455) dL_law_1350 (by decide) ?_
    exact oz_loc [(0, .ref 5000000), (1, .ref 0), (2, .ref 192), (3, .ref 201), (4, .ref 202), (5, .int (o_I ((4 * n : Nat) : Int)))] rfl (oz_mono (by omega) (by omega) (K g2 (h_xd_r hx1 f2) hmd2))
set_option maxRecDepth 100000 in
set_option maxHeartbeats 4000000 in
theorem lc_21 {l : Launch} {Z : o_Z} {post : o_P} {mc ms n d1 d2 mc1 ms1 : Nat} {al1 : Nat → Prop} (hmc : 57 ≤ mc) (hms : 12540 ≤ ms) (h1 : d1 < 16) (h2 : d2 < 16) (hm9 : mc1 ≤ 57) (hs9 : ms1 ≤ 12540) (hal : ∀ k, al1 k → k < 1000000) (hfr : (∀ k, ¬ al1 k) ∨ ((∀ q ∈ ([(0, .ref 5000000), (1, .ref 0), (2, .ref 192), (3, .ref 201), (4, .ref 202), (5, .int (o_I ((4 * n : Nat) : Int)))] : List (Nat × Value)), ∀ k, q.2 = .ref k → ¬ al1 k) ∧ ∀ v ∈ ([] : List Value), ∀ k, v = .ref k → ¬ al1 k)) {g M M' T T' : Nat → Nat → Int} {P P' : List (Nat → Nat → Int)} {S S' : Option (Nat → Nat → Int)} (hmd : o_md g M P S T) (v : Int)
    (C1 : o_Ct l yX11_leasedLamps wX11_leasedLamps d1 al1 [.ref 0] o_N (o_mem g) mc1 ms1 (x_x [] 0 (.int (o_I v)) M' P' S' T' g)) (C2 : ∀ g1, o_md g1 M P S T → o_Ct l yX12_leasedLamps wX12_leasedLamps d2 o_no [.ref 192] o_N (o_mem g1) 0 0 (r_y 0 (.int (o_I v)) M' P' S' T' g1))
    (K : ∀ g', o_xd g' M' P' S' T' → o_md g' M' P' S' T' → o_Vz Z l mL_law 16 w_al post 2455 (w_ls n) [] o_N (o_mem g') (mc - 57) (ms - 12540)) : o_Vz Z l mL_law 16 w_al post 1353 (w_ls n) [] o_N (o_mem g) mc ms := by
  refine oz_loc [(0, .ref 5000000), (1, .ref 0), (2, .ref 192), (3, .ref 201), (4, .ref 202), (5, .int (o_I ((4 * n : Nat) : Int)))] rfl ?_
  refine oz_aload_n dL_law_1353 rfl ?_
  refine oz_callV [] (rest := []) C1 dL_law_1354 ml_L_218 yw_X11_leasedLamps rfl (by decide) h1 (Nat.le_trans hm9 hmc) (Nat.le_trans hs9 hms) (by decide) rfl rfl rfl (Nat.le_of_ble_eq_true rfl) hal (fun k q => hal k q) hfr (fun v9 n9 h9 q9 => ?_) (fun E n9 h9 q9 => by obtain ⟨-, -, q⟩ := q9; rcases q with ⟨-, q⟩ | ⟨E, q, -⟩; cases q; exact absurd rfl q)
  obtain ⟨rfl, ⟨g1, rfl, hx1, f1⟩, q⟩ := q9
  obtain ⟨-, q⟩ := q.resolve_right (fun z => by obtain ⟨E, z, -⟩ := z; exact absurd rfl z)
  cases q
  refine oz_aload_n dL_law_1357 rfl ?_
  refine oz_cVm [] (C2 g1 (h_md_c hmd (h_x9 f1))) dL_law_1358 ml_L_221 yw_X12_leasedLamps rfl (by decide) h2 (by decide) rfl rfl rfl (Nat.le_of_ble_eq_true rfl) (fun g2 q2 => ?_)
  obtain ⟨-, hmd2, f2⟩ := q2
  refine oz_icmpS (tgt := 2455) dL_law_1361 (by decide) ?_
  exact oz_loc [(0, .ref 5000000), (1, .ref 0), (2, .ref 192), (3, .ref 201), (4, .ref 202), (5, .int (o_I ((4 * n : Nat) : Int)))] rfl (oz_mono (by omega) (by omega) (K g2 (h_xd_r hx1 f2) hmd2))
set_option maxRecDepth 100000 in
set_option maxHeartbeats 4000000 in
theorem lc_22 {l : Launch} {Z : o_Z} {post : o_P} {mc ms n d1 d2 mc1 ms1 : Nat} {al1 : Nat → Prop} (hmc : 57 ≤ mc) (hms : 12540 ≤ ms) (h1 : d1 < 16) (h2 : d2 < 16) (hm9 : mc1 ≤ 57) (hs9 : ms1 ≤ 12540) (hal : ∀ k, al1 k → k < 1000000) (hfr : (∀ k, ¬ al1 k) ∨ ((∀ q ∈ ([(0, .ref 5000000), (1, .ref 0), (2, .ref 192), (3, .ref 201), (4, .ref 202), (5, .int (o_I ((4 * n : Nat) : Int)))] : List (Nat × Value)), ∀ k, q.2 = .ref k → ¬ al1 k) ∧ ∀ v ∈ ([] : List Value), ∀ k, v = .ref k → ¬ al1 k)) {g M M' T T' : Nat → Nat → Int} {P P' : List (Nat → Nat → Int)} {S S' : Option (Nat → Nat → Int)} (hmd : o_md g M P S T) (v : Int)
    (C1 : o_Ct l yX11_oil wX11_oil d1 al1 [.ref 0] o_N (o_mem g) mc1 ms1 (x_x [] 0 (.int (o_I v)) M' P' S' T' g)) (C2 : ∀ g1, o_md g1 M P S T → o_Ct l yX12_oil wX12_oil d2 o_no [.ref 192] o_N (o_mem g1) 0 0 (r_y 0 (.int (o_I v)) M' P' S' T' g1))
    (K : ∀ g', o_xd g' M' P' S' T' → o_md g' M' P' S' T' → o_Vz Z l mL_law 16 w_al post 2455 (w_ls n) [] o_N (o_mem g') (mc - 57) (ms - 12540)) : o_Vz Z l mL_law 16 w_al post 1366 (w_ls n) [] o_N (o_mem g) mc ms := by
  refine oz_loc [(0, .ref 5000000), (1, .ref 0), (2, .ref 192), (3, .ref 201), (4, .ref 202), (5, .int (o_I ((4 * n : Nat) : Int)))] rfl ?_
  refine oz_aload_n dL_law_1366 rfl ?_
  refine oz_callV [] (rest := []) C1 dL_law_1367 ml_L_222 yw_X11_oil rfl (by decide) h1 (Nat.le_trans hm9 hmc) (Nat.le_trans hs9 hms) (by decide) rfl rfl rfl (Nat.le_of_ble_eq_true rfl) hal (fun k q => hal k q) hfr (fun v9 n9 h9 q9 => ?_) (fun E n9 h9 q9 => by obtain ⟨-, -, q⟩ := q9; rcases q with ⟨-, q⟩ | ⟨E, q, -⟩; cases q; exact absurd rfl q)
  obtain ⟨rfl, ⟨g1, rfl, hx1, f1⟩, q⟩ := q9
  obtain ⟨-, q⟩ := q.resolve_right (fun z => by obtain ⟨E, z, -⟩ := z; exact absurd rfl z)
  cases q
  refine oz_aload_n dL_law_1370 rfl ?_
  refine oz_cVm [] (C2 g1 (h_md_c hmd (h_x9 f1))) dL_law_1371 ml_L_225 yw_X12_oil rfl (by decide) h2 (by decide) rfl rfl rfl (Nat.le_of_ble_eq_true rfl) (fun g2 q2 => ?_)
  obtain ⟨-, hmd2, f2⟩ := q2
  refine oz_icmpS (tgt := 2455) dL_law_1374 (by decide) ?_
  exact oz_loc [(0, .ref 5000000), (1, .ref 0), (2, .ref 192), (3, .ref 201), (4, .ref 202), (5, .int (o_I ((4 * n : Nat) : Int)))] rfl (oz_mono (by omega) (by omega) (K g2 (h_xd_r hx1 f2) hmd2))
set_option maxRecDepth 100000 in
set_option maxHeartbeats 4000000 in
theorem lc_23 {l : Launch} {Z : o_Z} {post : o_P} {mc ms n d1 d2 mc1 ms1 : Nat} {al1 : Nat → Prop} (hmc : 57 ≤ mc) (hms : 12540 ≤ ms) (h1 : d1 < 16) (h2 : d2 < 16) (hm9 : mc1 ≤ 57) (hs9 : ms1 ≤ 12540) (hal : ∀ k, al1 k → k < 1000000) (hfr : (∀ k, ¬ al1 k) ∨ ((∀ q ∈ ([(0, .ref 5000000), (1, .ref 0), (2, .ref 192), (3, .ref 201), (4, .ref 202), (5, .int (o_I ((4 * n : Nat) : Int)))] : List (Nat × Value)), ∀ k, q.2 = .ref k → ¬ al1 k) ∧ ∀ v ∈ ([] : List Value), ∀ k, v = .ref k → ¬ al1 k)) {g M M' T T' : Nat → Nat → Int} {P P' : List (Nat → Nat → Int)} {S S' : Option (Nat → Nat → Int)} (hmd : o_md g M P S T) (v : Int)
    (C1 : o_Ct l yX11_consumption wX11_consumption d1 al1 [.ref 0] o_N (o_mem g) mc1 ms1 (x_x [] 0 (.int (o_I v)) M' P' S' T' g)) (C2 : ∀ g1, o_md g1 M P S T → o_Ct l yX12_consumption wX12_consumption d2 o_no [.ref 192] o_N (o_mem g1) 0 0 (r_y 0 (.int (o_I v)) M' P' S' T' g1))
    (K : ∀ g', o_xd g' M' P' S' T' → o_md g' M' P' S' T' → o_Vz Z l mL_law 16 w_al post 2455 (w_ls n) [] o_N (o_mem g') (mc - 57) (ms - 12540)) : o_Vz Z l mL_law 16 w_al post 1379 (w_ls n) [] o_N (o_mem g) mc ms := by
  refine oz_loc [(0, .ref 5000000), (1, .ref 0), (2, .ref 192), (3, .ref 201), (4, .ref 202), (5, .int (o_I ((4 * n : Nat) : Int)))] rfl ?_
  refine oz_aload_n dL_law_1379 rfl ?_
  refine oz_callV [] (rest := []) C1 dL_law_1380 ml_L_226 yw_X11_consumption rfl (by decide) h1 (Nat.le_trans hm9 hmc) (Nat.le_trans hs9 hms) (by decide) rfl rfl rfl (Nat.le_of_ble_eq_true rfl) hal (fun k q => hal k q) hfr (fun v9 n9 h9 q9 => ?_) (fun E n9 h9 q9 => by obtain ⟨-, -, q⟩ := q9; rcases q with ⟨-, q⟩ | ⟨E, q, -⟩; cases q; exact absurd rfl q)
  obtain ⟨rfl, ⟨g1, rfl, hx1, f1⟩, q⟩ := q9
  obtain ⟨-, q⟩ := q.resolve_right (fun z => by obtain ⟨E, z, -⟩ := z; exact absurd rfl z)
  cases q
  refine oz_aload_n dL_law_1383 rfl ?_
  refine oz_cVm [] (C2 g1 (h_md_c hmd (h_x9 f1))) dL_law_1384 ml_L_229 yw_X12_consumption rfl (by decide) h2 (by decide) rfl rfl rfl (Nat.le_of_ble_eq_true rfl) (fun g2 q2 => ?_)
  obtain ⟨-, hmd2, f2⟩ := q2
  refine oz_icmpS (tgt := 2455) dL_law_1387 (by decide) ?_
  exact oz_loc [(0, .ref 5000000), (1, .ref 0), (2, .ref 192), (3, .ref 201), (4, .ref 202), (5, .int (o_I ((4 * n : Nat) : Int)))] rfl (oz_mono (by omega) (by omega) (K g2 (h_xd_r hx1 f2) hmd2))
set_option maxRecDepth 100000 in
set_option maxHeartbeats 4000000 in
theorem lc_24 {l : Launch} (hl : l.stackTraces = false) {Z : o_Z} {post : o_P} {mc ms n d1 d2 : Nat} (hL : Z.2.2.2.1 ≤ 2048) (hn : 4 * n + 4 ≤ Z.2.2.2.1) (hmc : 57 ≤ mc) (hms : 12540 ≤ ms) (h1 : d1 < 16) (h2 : d2 < 16) {g M M' T T' : Nat → Nat → Int} {P P' : List (Nat → Nat → Int)} {S S' : Option (Nat → Nat → Int)} (hmd : o_md g M P S T) (k : Int) (hk : 0 ≤ k ∧ k ≤ 4) (v v2 : Int) (hv : k = 0 → v2 = v)
    (C1 : o_Ct l yL_hoursOfOil wL_hoursOfOil d1 o_no [.ref 0, .ref 201] o_N (o_mem g) 1 6 (h_x k 201 ((o_I v).toInt) M' P' S' T' g)) (C2 : ∀ g1, o_md g1 M P S T → o_Ct l yX12_hoursOfOil wX12_hoursOfOil d2 o_no [.ref 192] o_N (o_mem g1) 0 0 (r_y k (.int (o_I v2)) M' P' S' T' g1))
    (K : ∀ g', o_xd g' M' P' S' T' → o_md g' M' P' S' T' → o_Vz Z l mL_law 16 w_al post 2455 (w_ls n) [] o_N (o_mem g') (mc - 57) (ms - 12540)) : o_Vz Z l mL_law 16 w_al post 1392 (w_ls n) [] o_N (o_mem g) mc ms := by
  obtain ⟨hk1, hk2⟩ := hk
  refine oz_loc [(0, .ref 5000000), (1, .ref 0), (2, .ref 192), (3, .ref 201), (4, .ref 202), (5, .int (o_I ((4 * n : Nat) : Int)))] rfl ?_
  refine oz_aload_n dL_law_1392 rfl ?_
  refine oz_aload_n dL_law_1393 rfl ?_
  refine oz_callSW [.ref 0, .ref 201] (rest := []) C1 (fun E n9 h9 q => by obtain ⟨q1, -⟩ := q; cases q1) dL_law_1394 ml_L_230 ys_L_hoursOfOil rfl (by decide) h1 (by omega) (by omega) rfl (Nat.le_of_ble_eq_true rfl) (fun _ z => z.elim) (fun _ z => z.elim) (Or.inl fun _ z => z) (fun v9 n9 h9 q9 => ?_)
  obtain ⟨q1, rfl, g1, rfl, hx1, f1, hv1⟩ := q9
  cases q1
  refine oz_istore dL_law_1397 (by decide) ?_
  refine oz_aload_n dL_law_1399 rfl ?_
  refine oz_cVm [] (C2 g1 (h_md_c hmd f1)) dL_law_1400 ml_L_232 yw_X12_hoursOfOil rfl (by decide) h2 (by decide) rfl rfl rfl (Nat.le_of_ble_eq_true rfl) (fun g2 q2 => ?_)
  obtain ⟨e7, hmd2, f2⟩ := q2
  refine oz_istore dL_law_1403 (by decide) ?_
  refine oz_aload_n dL_law_1405 rfl ?_
  refine oz_cVm [] (h_thrown hl 0 g2 k e7) dL_law_1406 ml_L_149 yw_X12_thrown rfl (by decide) (by decide) (by decide) rfl rfl rfl (Nat.le_of_ble_eq_true rfl) (fun g3 q3 => ?_)
  rw [q3]
  refine oz_iload dL_law_1409 rfl ?_
  refine oz_icmpS (tgt := 1416) dL_law_1411 (by decide) ?_
  refine oz_iload dL_law_1416 rfl ?_
  refine oz_ifx_ne (tgt := 1433) dL_law_1418 (by decide) (fun c9 => ?_) (fun c9 => ?_)
  · refine oz_goto (tgt := 2455) dL_law_1433 (by decide) ?_
    exact oz_loc [(0, .ref 5000000), (1, .ref 0), (2, .ref 192), (3, .ref 201), (4, .ref 202), (5, .int (o_I ((4 * n : Nat) : Int)))] rfl (oz_mono (by omega) (by omega) (K g2 (h_xd_r hx1 f2) hmd2))
  have hk0 : k = 0 := (o_eq ⟨by omega, by omega⟩ o_R0).mp c9
  refine oz_aload_n dL_law_1421 rfl ?_
  refine oz_iconst dL_law_1422 ?_
  refine oz_lald (f := fun j => Int64.ofInt (g2 201 j)) (len := 1) dL_law_1423 (by decide) rfl (by decide) (by decide) (by decide) ?_
  refine oz_iload dL_law_1424 rfl ?_
  refine oz_i2l dL_law_1426 ?_
  refine oz_lcmpS (h_eqL f2 (hv1 hk0) (hv hk0)) dL_law_1427 ?_
  refine oz_ifx_eq (tgt := 1433) dL_law_1428 (by decide) (fun _ => ?_) (fun q => absurd rfl q)
  refine oz_goto (tgt := 2455) dL_law_1433 (by decide) ?_
  exact oz_loc [(0, .ref 5000000), (1, .ref 0), (2, .ref 192), (3, .ref 201), (4, .ref 202), (5, .int (o_I ((4 * n : Nat) : Int)))] rfl (oz_mono (by omega) (by omega) (K g2 (h_xd_r hx1 f2) hmd2))
set_option maxRecDepth 100000 in
set_option maxHeartbeats 4000000 in
theorem lc_25 {l : Launch} (hl : l.stackTraces = false) {Z : o_Z} {post : o_P} {mc ms n d1 d2 : Nat} (hL : Z.2.2.2.1 ≤ 2048) (hn : 4 * n + 4 ≤ Z.2.2.2.1) (hmc : 57 ≤ mc) (hms : 12540 ≤ ms) (h1 : d1 < 16) (h2 : d2 < 16) {g M M' T T' : Nat → Nat → Int} {P P' : List (Nat → Nat → Int)} {S S' : Option (Nat → Nat → Int)} (hmd : o_md g M P S T) (k : Int) (hk : 0 ≤ k ∧ k ≤ 4) (v v2 : Int) (hv : k = 0 → v2 = v)
    (C1 : o_Ct l yL_hoursOfOilByEnds wL_hoursOfOilByEnds d1 o_no [.ref 0, .ref 201] o_N (o_mem g) 1 6 (h_x k 201 ((o_I v).toInt) M' P' S' T' g)) (C2 : ∀ g1, o_md g1 M P S T → o_Ct l yX12_hoursOfOilByEnds wX12_hoursOfOilByEnds d2 o_no [.ref 192] o_N (o_mem g1) 0 0 (r_y k (.int (o_I v2)) M' P' S' T' g1))
    (K : ∀ g', o_xd g' M' P' S' T' → o_md g' M' P' S' T' → o_Vz Z l mL_law 16 w_al post 2455 (w_ls n) [] o_N (o_mem g') (mc - 57) (ms - 12540)) : o_Vz Z l mL_law 16 w_al post 1436 (w_ls n) [] o_N (o_mem g) mc ms := by
  obtain ⟨hk1, hk2⟩ := hk
  refine oz_loc [(0, .ref 5000000), (1, .ref 0), (2, .ref 192), (3, .ref 201), (4, .ref 202), (5, .int (o_I ((4 * n : Nat) : Int)))] rfl ?_
  refine oz_aload_n dL_law_1436 rfl ?_
  refine oz_aload_n dL_law_1437 rfl ?_
  refine oz_callSW [.ref 0, .ref 201] (rest := []) C1 (fun E n9 h9 q => by obtain ⟨q1, -⟩ := q; cases q1) dL_law_1438 ml_L_233 ys_L_hoursOfOilByEnds rfl (by decide) h1 (by omega) (by omega) rfl (Nat.le_of_ble_eq_true rfl) (fun _ z => z.elim) (fun _ z => z.elim) (Or.inl fun _ z => z) (fun v9 n9 h9 q9 => ?_)
  obtain ⟨q1, rfl, g1, rfl, hx1, f1, hv1⟩ := q9
  cases q1
  refine oz_istore dL_law_1441 (by decide) ?_
  refine oz_aload_n dL_law_1443 rfl ?_
  refine oz_cVm [] (C2 g1 (h_md_c hmd f1)) dL_law_1444 ml_L_235 yw_X12_hoursOfOilByEnds rfl (by decide) h2 (by decide) rfl rfl rfl (Nat.le_of_ble_eq_true rfl) (fun g2 q2 => ?_)
  obtain ⟨e7, hmd2, f2⟩ := q2
  refine oz_istore dL_law_1447 (by decide) ?_
  refine oz_aload_n dL_law_1449 rfl ?_
  refine oz_cVm [] (h_thrown hl 0 g2 k e7) dL_law_1450 ml_L_149 yw_X12_thrown rfl (by decide) (by decide) (by decide) rfl rfl rfl (Nat.le_of_ble_eq_true rfl) (fun g3 q3 => ?_)
  rw [q3]
  refine oz_iload dL_law_1453 rfl ?_
  refine oz_icmpS (tgt := 1460) dL_law_1455 (by decide) ?_
  refine oz_iload dL_law_1460 rfl ?_
  refine oz_ifx_ne (tgt := 1477) dL_law_1462 (by decide) (fun c9 => ?_) (fun c9 => ?_)
  · refine oz_goto (tgt := 2455) dL_law_1477 (by decide) ?_
    exact oz_loc [(0, .ref 5000000), (1, .ref 0), (2, .ref 192), (3, .ref 201), (4, .ref 202), (5, .int (o_I ((4 * n : Nat) : Int)))] rfl (oz_mono (by omega) (by omega) (K g2 (h_xd_r hx1 f2) hmd2))
  have hk0 : k = 0 := (o_eq ⟨by omega, by omega⟩ o_R0).mp c9
  refine oz_aload_n dL_law_1465 rfl ?_
  refine oz_iconst dL_law_1466 ?_
  refine oz_lald (f := fun j => Int64.ofInt (g2 201 j)) (len := 1) dL_law_1467 (by decide) rfl (by decide) (by decide) (by decide) ?_
  refine oz_iload dL_law_1468 rfl ?_
  refine oz_i2l dL_law_1470 ?_
  refine oz_lcmpS (h_eqL f2 (hv1 hk0) (hv hk0)) dL_law_1471 ?_
  refine oz_ifx_eq (tgt := 1477) dL_law_1472 (by decide) (fun _ => ?_) (fun q => absurd rfl q)
  refine oz_goto (tgt := 2455) dL_law_1477 (by decide) ?_
  exact oz_loc [(0, .ref 5000000), (1, .ref 0), (2, .ref 192), (3, .ref 201), (4, .ref 202), (5, .int (o_I ((4 * n : Nat) : Int)))] rfl (oz_mono (by omega) (by omega) (K g2 (h_xd_r hx1 f2) hmd2))
set_option maxRecDepth 100000 in
set_option maxHeartbeats 4000000 in
theorem lc_26 {l : Launch} {Z : o_Z} {post : o_P} {mc ms n d1 d2 mc1 ms1 : Nat} {al1 : Nat → Prop} (hmc : 57 ≤ mc) (hms : 12540 ≤ ms) (h1 : d1 < 16) (h2 : d2 < 16) (hm9 : mc1 ≤ 57) (hs9 : ms1 ≤ 12540) (hal : ∀ k, al1 k → k < 1000000) (hfr : (∀ k, ¬ al1 k) ∨ ((∀ q ∈ ([(0, .ref 5000000), (1, .ref 0), (2, .ref 192), (3, .ref 201), (4, .ref 202), (5, .int (o_I ((4 * n : Nat) : Int)))] : List (Nat × Value)), ∀ k, q.2 = .ref k → ¬ al1 k) ∧ ∀ v ∈ ([] : List Value), ∀ k, v = .ref k → ¬ al1 k)) {g M M' T T' : Nat → Nat → Int} {P P' : List (Nat → Nat → Int)} {S S' : Option (Nat → Nat → Int)} (hmd : o_md g M P S T) (v : Int)
    (C1 : o_Ct l yX11_brightNext wX11_brightNext d1 al1 [.ref 0] o_N (o_mem g) mc1 ms1 (x_x [] 0 (.int (o_I v)) M' P' S' T' g)) (C2 : ∀ g1, o_md g1 M P S T → o_Ct l yX12_brightNext wX12_brightNext d2 o_no [.ref 192] o_N (o_mem g1) 0 0 (r_y 0 (.int (o_I v)) M' P' S' T' g1))
    (K : ∀ g', o_xd g' M' P' S' T' → o_md g' M' P' S' T' → o_Vz Z l mL_law 16 w_al post 2455 (w_ls n) [] o_N (o_mem g') (mc - 57) (ms - 12540)) : o_Vz Z l mL_law 16 w_al post 1480 (w_ls n) [] o_N (o_mem g) mc ms := by
  refine oz_loc [(0, .ref 5000000), (1, .ref 0), (2, .ref 192), (3, .ref 201), (4, .ref 202), (5, .int (o_I ((4 * n : Nat) : Int)))] rfl ?_
  refine oz_aload_n dL_law_1480 rfl ?_
  refine oz_callV [] (rest := []) C1 dL_law_1481 ml_L_236 yw_X11_brightNext rfl (by decide) h1 (Nat.le_trans hm9 hmc) (Nat.le_trans hs9 hms) (by decide) rfl rfl rfl (Nat.le_of_ble_eq_true rfl) hal (fun k q => hal k q) hfr (fun v9 n9 h9 q9 => ?_) (fun E n9 h9 q9 => by obtain ⟨-, -, q⟩ := q9; rcases q with ⟨-, q⟩ | ⟨E, q, -⟩; cases q; exact absurd rfl q)
  obtain ⟨rfl, ⟨g1, rfl, hx1, f1⟩, q⟩ := q9
  obtain ⟨-, q⟩ := q.resolve_right (fun z => by obtain ⟨E, z, -⟩ := z; exact absurd rfl z)
  cases q
  refine oz_aload_n dL_law_1484 rfl ?_
  refine oz_cVm [] (C2 g1 (h_md_c hmd (h_x9 f1))) dL_law_1485 ml_L_239 yw_X12_brightNext rfl (by decide) h2 (by decide) rfl rfl rfl (Nat.le_of_ble_eq_true rfl) (fun g2 q2 => ?_)
  obtain ⟨-, hmd2, f2⟩ := q2
  refine oz_icmpS (tgt := 2455) dL_law_1488 (by decide) ?_
  exact oz_loc [(0, .ref 5000000), (1, .ref 0), (2, .ref 192), (3, .ref 201), (4, .ref 202), (5, .int (o_I ((4 * n : Nat) : Int)))] rfl (oz_mono (by omega) (by omega) (K g2 (h_xd_r hx1 f2) hmd2))
set_option maxRecDepth 100000 in
set_option maxHeartbeats 4000000 in
theorem lc_27 {l : Launch} {Z : o_Z} {post : o_P} {mc ms n d1 d2 mc1 ms1 : Nat} {al1 : Nat → Prop} (hmc : 57 ≤ mc) (hms : 12540 ≤ ms) (h1 : d1 < 16) (h2 : d2 < 16) (hm9 : mc1 ≤ 57) (hs9 : ms1 ≤ 12540) (hal : ∀ k, al1 k → k < 1000000) (hfr : (∀ k, ¬ al1 k) ∨ ((∀ q ∈ ([(0, .ref 5000000), (1, .ref 0), (2, .ref 192), (3, .ref 201), (4, .ref 202), (5, .int (o_I ((4 * n : Nat) : Int)))] : List (Nat × Value)), ∀ k, q.2 = .ref k → ¬ al1 k) ∧ ∀ v ∈ ([] : List Value), ∀ k, v = .ref k → ¬ al1 k)) {g M M' T T' : Nat → Nat → Int} {P P' : List (Nat → Nat → Int)} {S S' : Option (Nat → Nat → Int)} (hmd : o_md g M P S T) (v : Int)
    (C1 : o_Ct l yX11_mostBright wX11_mostBright d1 al1 [.ref 0] o_N (o_mem g) mc1 ms1 (x_x [] 0 (.int (o_I v)) M' P' S' T' g)) (C2 : ∀ g1, o_md g1 M P S T → o_Ct l yX12_mostBright wX12_mostBright d2 o_no [.ref 192] o_N (o_mem g1) 0 0 (r_y 0 (.int (o_I v)) M' P' S' T' g1))
    (K : ∀ g', o_xd g' M' P' S' T' → o_md g' M' P' S' T' → o_Vz Z l mL_law 16 w_al post 2455 (w_ls n) [] o_N (o_mem g') (mc - 57) (ms - 12540)) : o_Vz Z l mL_law 16 w_al post 1493 (w_ls n) [] o_N (o_mem g) mc ms := by
  refine oz_loc [(0, .ref 5000000), (1, .ref 0), (2, .ref 192), (3, .ref 201), (4, .ref 202), (5, .int (o_I ((4 * n : Nat) : Int)))] rfl ?_
  refine oz_aload_n dL_law_1493 rfl ?_
  refine oz_callV [] (rest := []) C1 dL_law_1494 ml_L_240 yw_X11_mostBright rfl (by decide) h1 (Nat.le_trans hm9 hmc) (Nat.le_trans hs9 hms) (by decide) rfl rfl rfl (Nat.le_of_ble_eq_true rfl) hal (fun k q => hal k q) hfr (fun v9 n9 h9 q9 => ?_) (fun E n9 h9 q9 => by obtain ⟨-, -, q⟩ := q9; rcases q with ⟨-, q⟩ | ⟨E, q, -⟩; cases q; exact absurd rfl q)
  obtain ⟨rfl, ⟨g1, rfl, hx1, f1⟩, q⟩ := q9
  obtain ⟨-, q⟩ := q.resolve_right (fun z => by obtain ⟨E, z, -⟩ := z; exact absurd rfl z)
  cases q
  refine oz_aload_n dL_law_1497 rfl ?_
  refine oz_cVm [] (C2 g1 (h_md_c hmd (h_x9 f1))) dL_law_1498 ml_L_243 yw_X12_mostBright rfl (by decide) h2 (by decide) rfl rfl rfl (Nat.le_of_ble_eq_true rfl) (fun g2 q2 => ?_)
  obtain ⟨-, hmd2, f2⟩ := q2
  refine oz_icmpS (tgt := 2455) dL_law_1501 (by decide) ?_
  exact oz_loc [(0, .ref 5000000), (1, .ref 0), (2, .ref 192), (3, .ref 201), (4, .ref 202), (5, .int (o_I ((4 * n : Nat) : Int)))] rfl (oz_mono (by omega) (by omega) (K g2 (h_xd_r hx1 f2) hmd2))
set_option maxRecDepth 100000 in
set_option maxHeartbeats 4000000 in
theorem lc_28 {l : Launch} {Z : o_Z} {post : o_P} {mc ms n d1 d2 mc1 ms1 : Nat} {al1 : Nat → Prop} (hmc : 57 ≤ mc) (hms : 12540 ≤ ms) (h1 : d1 < 16) (h2 : d2 < 16) (hm9 : mc1 ≤ 57) (hs9 : ms1 ≤ 12540) (hal : ∀ k, al1 k → k < 1000000) (hfr : (∀ k, ¬ al1 k) ∨ ((∀ q ∈ ([(0, .ref 5000000), (1, .ref 0), (2, .ref 192), (3, .ref 201), (4, .ref 202), (5, .int (o_I ((4 * n : Nat) : Int)))] : List (Nat × Value)), ∀ k, q.2 = .ref k → ¬ al1 k) ∧ ∀ v ∈ ([] : List Value), ∀ k, v = .ref k → ¬ al1 k)) {g M M' T T' : Nat → Nat → Int} {P P' : List (Nat → Nat → Int)} {S S' : Option (Nat → Nat → Int)} (hmd : o_md g M P S T) (v : Int)
    (C1 : o_Ct l yX11_mostBrightBySums wX11_mostBrightBySums d1 al1 [.ref 0] o_N (o_mem g) mc1 ms1 (x_x [] 0 (.int (o_I v)) M' P' S' T' g)) (C2 : ∀ g1, o_md g1 M P S T → o_Ct l yX12_mostBrightBySums wX12_mostBrightBySums d2 o_no [.ref 192] o_N (o_mem g1) 0 0 (r_y 0 (.int (o_I v)) M' P' S' T' g1))
    (K : ∀ g', o_xd g' M' P' S' T' → o_md g' M' P' S' T' → o_Vz Z l mL_law 16 w_al post 2455 (w_ls n) [] o_N (o_mem g') (mc - 57) (ms - 12540)) : o_Vz Z l mL_law 16 w_al post 1506 (w_ls n) [] o_N (o_mem g) mc ms := by
  refine oz_loc [(0, .ref 5000000), (1, .ref 0), (2, .ref 192), (3, .ref 201), (4, .ref 202), (5, .int (o_I ((4 * n : Nat) : Int)))] rfl ?_
  refine oz_aload_n dL_law_1506 rfl ?_
  refine oz_callV [] (rest := []) C1 dL_law_1507 ml_L_244 yw_X11_mostBrightBySums rfl (by decide) h1 (Nat.le_trans hm9 hmc) (Nat.le_trans hs9 hms) (by decide) rfl rfl rfl (Nat.le_of_ble_eq_true rfl) hal (fun k q => hal k q) hfr (fun v9 n9 h9 q9 => ?_) (fun E n9 h9 q9 => by obtain ⟨-, -, q⟩ := q9; rcases q with ⟨-, q⟩ | ⟨E, q, -⟩; cases q; exact absurd rfl q)
  obtain ⟨rfl, ⟨g1, rfl, hx1, f1⟩, q⟩ := q9
  obtain ⟨-, q⟩ := q.resolve_right (fun z => by obtain ⟨E, z, -⟩ := z; exact absurd rfl z)
  cases q
  refine oz_aload_n dL_law_1510 rfl ?_
  refine oz_cVm [] (C2 g1 (h_md_c hmd (h_x9 f1))) dL_law_1511 ml_L_247 yw_X12_mostBrightBySums rfl (by decide) h2 (by decide) rfl rfl rfl (Nat.le_of_ble_eq_true rfl) (fun g2 q2 => ?_)
  obtain ⟨-, hmd2, f2⟩ := q2
  refine oz_icmpS (tgt := 2455) dL_law_1514 (by decide) ?_
  exact oz_loc [(0, .ref 5000000), (1, .ref 0), (2, .ref 192), (3, .ref 201), (4, .ref 202), (5, .int (o_I ((4 * n : Nat) : Int)))] rfl (oz_mono (by omega) (by omega) (K g2 (h_xd_r hx1 f2) hmd2))
set_option maxRecDepth 100000 in
set_option maxHeartbeats 4000000 in
theorem lc_29 {l : Launch} (hl : l.stackTraces = false) {Z : o_Z} {post : o_P} {mc ms n d1 d2 : Nat} (hL : Z.2.2.2.1 ≤ 2048) (hn : 4 * n + 4 ≤ Z.2.2.2.1) (hmc : 57 ≤ mc) (hms : 12540 ≤ ms) (h1 : d1 < 16) (h2 : d2 < 16) {g M M' T T' : Nat → Nat → Int} {P P' : List (Nat → Nat → Int)} {S S' : Option (Nat → Nat → Int)} (hmd : o_md g M P S T) (k : Int) (hk : 0 ≤ k ∧ k ≤ 4) (v v2 : Int) (hv : k = 0 → v2 = v)
    (C1 : o_Ct l yL_share wL_share d1 o_no [.ref 0, .int (o_I (h_s Z (4 * n + 1))), .ref 201] o_N (o_mem g) 1 6 (h_x k 201 ((o_I v).toInt) M' P' S' T' g)) (C2 : ∀ g1, o_md g1 M P S T → o_Ct l yX12_share wX12_share d2 o_no [.ref 192, .int (o_I (h_s Z (4 * n + 1)))] o_N (o_mem g1) 0 0 (r_y k (.int (o_I v2)) M' P' S' T' g1))
    (K : ∀ g', o_xd g' M' P' S' T' → o_md g' M' P' S' T' → o_Vz Z l mL_law 16 w_al post 2455 (w_ls n) [] o_N (o_mem g') (mc - 57) (ms - 12540)) : o_Vz Z l mL_law 16 w_al post 1519 (w_ls n) [] o_N (o_mem g) mc ms := by
  obtain ⟨hk1, hk2⟩ := hk
  refine oz_loc [(0, .ref 5000000), (1, .ref 0), (2, .ref 192), (3, .ref 201), (4, .ref 202), (5, .int (o_I ((4 * n : Nat) : Int)))] rfl ?_
  refine oz_aload_n dL_law_1519 rfl ?_
  refine oz_aload_n dL_law_1520 rfl ?_
  refine oz_iload dL_law_1521 rfl ?_
  refine oz_iconst dL_law_1523 ?_
  refine oz_iadd dL_law_1524 ?_
  refine oz_sld (j := 4 * n + 1) (by omega) (by omega) hL dL_law_1525 ?_
  refine oz_aload_n dL_law_1526 rfl ?_
  refine oz_callSW [.ref 0, .int (o_I (h_s Z (4 * n + 1))), .ref 201] (rest := []) C1 (fun E n9 h9 q => by obtain ⟨q1, -⟩ := q; cases q1) dL_law_1527 ml_L_248 ys_L_share rfl (by decide) h1 (by omega) (by omega) rfl (Nat.le_of_ble_eq_true rfl) (fun _ z => z.elim) (fun _ z => z.elim) (Or.inl fun _ z => z) (fun v9 n9 h9 q9 => ?_)
  obtain ⟨q1, rfl, g1, rfl, hx1, f1, hv1⟩ := q9
  cases q1
  refine oz_istore dL_law_1530 (by decide) ?_
  refine oz_aload_n dL_law_1532 rfl ?_
  refine oz_aload_n dL_law_1533 rfl ?_
  refine oz_iload dL_law_1534 rfl ?_
  refine oz_iconst dL_law_1536 ?_
  refine oz_iadd dL_law_1537 ?_
  refine oz_sld (j := 4 * n + 1) (by omega) (by omega) hL dL_law_1538 ?_
  refine oz_cVm [.int (o_I (h_s Z (4 * n + 1)))] (C2 g1 (h_md_c hmd f1)) dL_law_1539 ml_L_250 yw_X12_share rfl (by decide) h2 (by decide) rfl rfl rfl (Nat.le_of_ble_eq_true rfl) (fun g2 q2 => ?_)
  obtain ⟨e7, hmd2, f2⟩ := q2
  refine oz_istore dL_law_1542 (by decide) ?_
  refine oz_aload_n dL_law_1544 rfl ?_
  refine oz_cVm [] (h_thrown hl 0 g2 k e7) dL_law_1545 ml_L_149 yw_X12_thrown rfl (by decide) (by decide) (by decide) rfl rfl rfl (Nat.le_of_ble_eq_true rfl) (fun g3 q3 => ?_)
  rw [q3]
  refine oz_iload dL_law_1548 rfl ?_
  refine oz_icmpS (tgt := 1555) dL_law_1550 (by decide) ?_
  refine oz_iload dL_law_1555 rfl ?_
  refine oz_ifx_ne (tgt := 1572) dL_law_1557 (by decide) (fun c9 => ?_) (fun c9 => ?_)
  · refine oz_goto (tgt := 2455) dL_law_1572 (by decide) ?_
    exact oz_loc [(0, .ref 5000000), (1, .ref 0), (2, .ref 192), (3, .ref 201), (4, .ref 202), (5, .int (o_I ((4 * n : Nat) : Int)))] rfl (oz_mono (by omega) (by omega) (K g2 (h_xd_r hx1 f2) hmd2))
  have hk0 : k = 0 := (o_eq ⟨by omega, by omega⟩ o_R0).mp c9
  refine oz_aload_n dL_law_1560 rfl ?_
  refine oz_iconst dL_law_1561 ?_
  refine oz_lald (f := fun j => Int64.ofInt (g2 201 j)) (len := 1) dL_law_1562 (by decide) rfl (by decide) (by decide) (by decide) ?_
  refine oz_iload dL_law_1563 rfl ?_
  refine oz_i2l dL_law_1565 ?_
  refine oz_lcmpS (h_eqL f2 (hv1 hk0) (hv hk0)) dL_law_1566 ?_
  refine oz_ifx_eq (tgt := 1572) dL_law_1567 (by decide) (fun _ => ?_) (fun q => absurd rfl q)
  refine oz_goto (tgt := 2455) dL_law_1572 (by decide) ?_
  exact oz_loc [(0, .ref 5000000), (1, .ref 0), (2, .ref 192), (3, .ref 201), (4, .ref 202), (5, .int (o_I ((4 * n : Nat) : Int)))] rfl (oz_mono (by omega) (by omega) (K g2 (h_xd_r hx1 f2) hmd2))
set_option maxRecDepth 100000 in
set_option maxHeartbeats 4000000 in
theorem lc_30 {l : Launch} (hl : l.stackTraces = false) {Z : o_Z} {post : o_P} {mc ms n d1 d2 : Nat} (hL : Z.2.2.2.1 ≤ 2048) (hn : 4 * n + 4 ≤ Z.2.2.2.1) (hmc : 57 ≤ mc) (hms : 12540 ≤ ms) (h1 : d1 < 16) (h2 : d2 < 16) {g M M' T T' : Nat → Nat → Int} {P P' : List (Nat → Nat → Int)} {S S' : Option (Nat → Nat → Int)} (hmd : o_md g M P S T) (k : Int) (hk : 0 ≤ k ∧ k ≤ 4) (v v2 : Int) (hv : k = 0 → v2 = v)
    (C1 : o_Ct l yL_shareByRank wL_shareByRank d1 o_no [.ref 0, .int (o_I (h_s Z (4 * n + 1))), .ref 201] o_N (o_mem g) 1 6 (h_x k 201 ((o_I v).toInt) M' P' S' T' g)) (C2 : ∀ g1, o_md g1 M P S T → o_Ct l yX12_shareByRank wX12_shareByRank d2 o_no [.ref 192, .int (o_I (h_s Z (4 * n + 1)))] o_N (o_mem g1) 0 0 (r_y k (.int (o_I v2)) M' P' S' T' g1))
    (K : ∀ g', o_xd g' M' P' S' T' → o_md g' M' P' S' T' → o_Vz Z l mL_law 16 w_al post 2455 (w_ls n) [] o_N (o_mem g') (mc - 57) (ms - 12540)) : o_Vz Z l mL_law 16 w_al post 1575 (w_ls n) [] o_N (o_mem g) mc ms := by
  obtain ⟨hk1, hk2⟩ := hk
  refine oz_loc [(0, .ref 5000000), (1, .ref 0), (2, .ref 192), (3, .ref 201), (4, .ref 202), (5, .int (o_I ((4 * n : Nat) : Int)))] rfl ?_
  refine oz_aload_n dL_law_1575 rfl ?_
  refine oz_aload_n dL_law_1576 rfl ?_
  refine oz_iload dL_law_1577 rfl ?_
  refine oz_iconst dL_law_1579 ?_
  refine oz_iadd dL_law_1580 ?_
  refine oz_sld (j := 4 * n + 1) (by omega) (by omega) hL dL_law_1581 ?_
  refine oz_aload_n dL_law_1582 rfl ?_
  refine oz_callSW [.ref 0, .int (o_I (h_s Z (4 * n + 1))), .ref 201] (rest := []) C1 (fun E n9 h9 q => by obtain ⟨q1, -⟩ := q; cases q1) dL_law_1583 ml_L_251 ys_L_shareByRank rfl (by decide) h1 (by omega) (by omega) rfl (Nat.le_of_ble_eq_true rfl) (fun _ z => z.elim) (fun _ z => z.elim) (Or.inl fun _ z => z) (fun v9 n9 h9 q9 => ?_)
  obtain ⟨q1, rfl, g1, rfl, hx1, f1, hv1⟩ := q9
  cases q1
  refine oz_istore dL_law_1586 (by decide) ?_
  refine oz_aload_n dL_law_1588 rfl ?_
  refine oz_aload_n dL_law_1589 rfl ?_
  refine oz_iload dL_law_1590 rfl ?_
  refine oz_iconst dL_law_1592 ?_
  refine oz_iadd dL_law_1593 ?_
  refine oz_sld (j := 4 * n + 1) (by omega) (by omega) hL dL_law_1594 ?_
  refine oz_cVm [.int (o_I (h_s Z (4 * n + 1)))] (C2 g1 (h_md_c hmd f1)) dL_law_1595 ml_L_253 yw_X12_shareByRank rfl (by decide) h2 (by decide) rfl rfl rfl (Nat.le_of_ble_eq_true rfl) (fun g2 q2 => ?_)
  obtain ⟨e7, hmd2, f2⟩ := q2
  refine oz_istore dL_law_1598 (by decide) ?_
  refine oz_aload_n dL_law_1600 rfl ?_
  refine oz_cVm [] (h_thrown hl 0 g2 k e7) dL_law_1601 ml_L_149 yw_X12_thrown rfl (by decide) (by decide) (by decide) rfl rfl rfl (Nat.le_of_ble_eq_true rfl) (fun g3 q3 => ?_)
  rw [q3]
  refine oz_iload dL_law_1604 rfl ?_
  refine oz_icmpS (tgt := 1611) dL_law_1606 (by decide) ?_
  refine oz_iload dL_law_1611 rfl ?_
  refine oz_ifx_ne (tgt := 1628) dL_law_1613 (by decide) (fun c9 => ?_) (fun c9 => ?_)
  · refine oz_goto (tgt := 2455) dL_law_1628 (by decide) ?_
    exact oz_loc [(0, .ref 5000000), (1, .ref 0), (2, .ref 192), (3, .ref 201), (4, .ref 202), (5, .int (o_I ((4 * n : Nat) : Int)))] rfl (oz_mono (by omega) (by omega) (K g2 (h_xd_r hx1 f2) hmd2))
  have hk0 : k = 0 := (o_eq ⟨by omega, by omega⟩ o_R0).mp c9
  refine oz_aload_n dL_law_1616 rfl ?_
  refine oz_iconst dL_law_1617 ?_
  refine oz_lald (f := fun j => Int64.ofInt (g2 201 j)) (len := 1) dL_law_1618 (by decide) rfl (by decide) (by decide) (by decide) ?_
  refine oz_iload dL_law_1619 rfl ?_
  refine oz_i2l dL_law_1621 ?_
  refine oz_lcmpS (h_eqL f2 (hv1 hk0) (hv hk0)) dL_law_1622 ?_
  refine oz_ifx_eq (tgt := 1628) dL_law_1623 (by decide) (fun _ => ?_) (fun q => absurd rfl q)
  refine oz_goto (tgt := 2455) dL_law_1628 (by decide) ?_
  exact oz_loc [(0, .ref 5000000), (1, .ref 0), (2, .ref 192), (3, .ref 201), (4, .ref 202), (5, .int (o_I ((4 * n : Nat) : Int)))] rfl (oz_mono (by omega) (by omega) (K g2 (h_xd_r hx1 f2) hmd2))
set_option maxRecDepth 100000 in
set_option maxHeartbeats 4000000 in
theorem lc_31 {l : Launch} {Z : o_Z} {post : o_P} {mc ms n d1 d2 mc1 ms1 : Nat} {al1 : Nat → Prop} (hmc : 57 ≤ mc) (hms : 12540 ≤ ms) (h1 : d1 < 16) (h2 : d2 < 16) (hm9 : mc1 ≤ 57) (hs9 : ms1 ≤ 12540) (hal : ∀ k, al1 k → k < 1000000) (hfr : (∀ k, ¬ al1 k) ∨ ((∀ q ∈ ([(0, .ref 5000000), (1, .ref 0), (2, .ref 192), (3, .ref 201), (4, .ref 202), (5, .int (o_I ((4 * n : Nat) : Int)))] : List (Nat × Value)), ∀ k, q.2 = .ref k → ¬ al1 k) ∧ ∀ v ∈ ([] : List Value), ∀ k, v = .ref k → ¬ al1 k)) {g M M' T T' : Nat → Nat → Int} {P P' : List (Nat → Nat → Int)} {S S' : Option (Nat → Nat → Int)} (hmd : o_md g M P S T) (v : Int)
    (C1 : o_Ct l yX11_requestCount wX11_requestCount d1 al1 [.ref 0] o_N (o_mem g) mc1 ms1 (x_x [] 0 (.int (o_I v)) M' P' S' T' g)) (C2 : ∀ g1, o_md g1 M P S T → o_Ct l yX12_requestCount wX12_requestCount d2 o_no [.ref 192] o_N (o_mem g1) 0 0 (r_y 0 (.int (o_I v)) M' P' S' T' g1))
    (K : ∀ g', o_xd g' M' P' S' T' → o_md g' M' P' S' T' → o_Vz Z l mL_law 16 w_al post 2455 (w_ls n) [] o_N (o_mem g') (mc - 57) (ms - 12540)) : o_Vz Z l mL_law 16 w_al post 1631 (w_ls n) [] o_N (o_mem g) mc ms := by
  refine oz_loc [(0, .ref 5000000), (1, .ref 0), (2, .ref 192), (3, .ref 201), (4, .ref 202), (5, .int (o_I ((4 * n : Nat) : Int)))] rfl ?_
  refine oz_aload_n dL_law_1631 rfl ?_
  refine oz_callV [] (rest := []) C1 dL_law_1632 ml_L_254 yw_X11_requestCount rfl (by decide) h1 (Nat.le_trans hm9 hmc) (Nat.le_trans hs9 hms) (by decide) rfl rfl rfl (Nat.le_of_ble_eq_true rfl) hal (fun k q => hal k q) hfr (fun v9 n9 h9 q9 => ?_) (fun E n9 h9 q9 => by obtain ⟨-, -, q⟩ := q9; rcases q with ⟨-, q⟩ | ⟨E, q, -⟩; cases q; exact absurd rfl q)
  obtain ⟨rfl, ⟨g1, rfl, hx1, f1⟩, q⟩ := q9
  obtain ⟨-, q⟩ := q.resolve_right (fun z => by obtain ⟨E, z, -⟩ := z; exact absurd rfl z)
  cases q
  refine oz_aload_n dL_law_1635 rfl ?_
  refine oz_cVm [] (C2 g1 (h_md_c hmd (h_x9 f1))) dL_law_1636 ml_L_257 yw_X12_requestCount rfl (by decide) h2 (by decide) rfl rfl rfl (Nat.le_of_ble_eq_true rfl) (fun g2 q2 => ?_)
  obtain ⟨-, hmd2, f2⟩ := q2
  refine oz_icmpS (tgt := 2455) dL_law_1639 (by decide) ?_
  exact oz_loc [(0, .ref 5000000), (1, .ref 0), (2, .ref 192), (3, .ref 201), (4, .ref 202), (5, .int (o_I ((4 * n : Nat) : Int)))] rfl (oz_mono (by omega) (by omega) (K g2 (h_xd_r hx1 f2) hmd2))
set_option maxRecDepth 100000 in
set_option maxHeartbeats 4000000 in
theorem lc_32 {l : Launch} (hl : l.stackTraces = false) {Z : o_Z} {post : o_P} {mc ms n d1 d2 : Nat} (hL : Z.2.2.2.1 ≤ 2048) (hn : 4 * n + 4 ≤ Z.2.2.2.1) (hmc : 57 ≤ mc) (hms : 12540 ≤ ms) (h1 : d1 < 16) (h2 : d2 < 16) {g M M' T T' : Nat → Nat → Int} {P P' : List (Nat → Nat → Int)} {S S' : Option (Nat → Nat → Int)} (hmd : o_md g M P S T) (k : Int) (hk : 0 ≤ k ∧ k ≤ 4) (v v2 : Int) (hv : k = 0 → v2 = v)
    (C1 : o_Ct l yL_requestedLamp wL_requestedLamp d1 o_no [.ref 0, .int (o_I (h_s Z (4 * n + 1))), .ref 201] o_N (o_mem g) 1 6 (h_x k 201 ((o_I v).toInt) M' P' S' T' g)) (C2 : ∀ g1, o_md g1 M P S T → o_Ct l yX12_requestedLamp wX12_requestedLamp d2 o_no [.ref 192, .int (o_I (h_s Z (4 * n + 1)))] o_N (o_mem g1) 0 0 (r_y k (.int (o_I v2)) M' P' S' T' g1))
    (K : ∀ g', o_xd g' M' P' S' T' → o_md g' M' P' S' T' → o_Vz Z l mL_law 16 w_al post 2455 (w_ls n) [] o_N (o_mem g') (mc - 57) (ms - 12540)) : o_Vz Z l mL_law 16 w_al post 1644 (w_ls n) [] o_N (o_mem g) mc ms := by
  obtain ⟨hk1, hk2⟩ := hk
  refine oz_loc [(0, .ref 5000000), (1, .ref 0), (2, .ref 192), (3, .ref 201), (4, .ref 202), (5, .int (o_I ((4 * n : Nat) : Int)))] rfl ?_
  refine oz_aload_n dL_law_1644 rfl ?_
  refine oz_aload_n dL_law_1645 rfl ?_
  refine oz_iload dL_law_1646 rfl ?_
  refine oz_iconst dL_law_1648 ?_
  refine oz_iadd dL_law_1649 ?_
  refine oz_sld (j := 4 * n + 1) (by omega) (by omega) hL dL_law_1650 ?_
  refine oz_aload_n dL_law_1651 rfl ?_
  refine oz_callSW [.ref 0, .int (o_I (h_s Z (4 * n + 1))), .ref 201] (rest := []) C1 (fun E n9 h9 q => by obtain ⟨q1, -⟩ := q; cases q1) dL_law_1652 ml_L_258 ys_L_requestedLamp rfl (by decide) h1 (by omega) (by omega) rfl (Nat.le_of_ble_eq_true rfl) (fun _ z => z.elim) (fun _ z => z.elim) (Or.inl fun _ z => z) (fun v9 n9 h9 q9 => ?_)
  obtain ⟨q1, rfl, g1, rfl, hx1, f1, hv1⟩ := q9
  cases q1
  refine oz_istore dL_law_1655 (by decide) ?_
  refine oz_aload_n dL_law_1657 rfl ?_
  refine oz_aload_n dL_law_1658 rfl ?_
  refine oz_iload dL_law_1659 rfl ?_
  refine oz_iconst dL_law_1661 ?_
  refine oz_iadd dL_law_1662 ?_
  refine oz_sld (j := 4 * n + 1) (by omega) (by omega) hL dL_law_1663 ?_
  refine oz_cVm [.int (o_I (h_s Z (4 * n + 1)))] (C2 g1 (h_md_c hmd f1)) dL_law_1664 ml_L_260 yw_X12_requestedLamp rfl (by decide) h2 (by decide) rfl rfl rfl (Nat.le_of_ble_eq_true rfl) (fun g2 q2 => ?_)
  obtain ⟨e7, hmd2, f2⟩ := q2
  refine oz_istore dL_law_1667 (by decide) ?_
  refine oz_aload_n dL_law_1669 rfl ?_
  refine oz_cVm [] (h_thrown hl 0 g2 k e7) dL_law_1670 ml_L_149 yw_X12_thrown rfl (by decide) (by decide) (by decide) rfl rfl rfl (Nat.le_of_ble_eq_true rfl) (fun g3 q3 => ?_)
  rw [q3]
  refine oz_iload dL_law_1673 rfl ?_
  refine oz_icmpS (tgt := 1680) dL_law_1675 (by decide) ?_
  refine oz_iload dL_law_1680 rfl ?_
  refine oz_ifx_ne (tgt := 1697) dL_law_1682 (by decide) (fun c9 => ?_) (fun c9 => ?_)
  · refine oz_goto (tgt := 2455) dL_law_1697 (by decide) ?_
    exact oz_loc [(0, .ref 5000000), (1, .ref 0), (2, .ref 192), (3, .ref 201), (4, .ref 202), (5, .int (o_I ((4 * n : Nat) : Int)))] rfl (oz_mono (by omega) (by omega) (K g2 (h_xd_r hx1 f2) hmd2))
  have hk0 : k = 0 := (o_eq ⟨by omega, by omega⟩ o_R0).mp c9
  refine oz_aload_n dL_law_1685 rfl ?_
  refine oz_iconst dL_law_1686 ?_
  refine oz_lald (f := fun j => Int64.ofInt (g2 201 j)) (len := 1) dL_law_1687 (by decide) rfl (by decide) (by decide) (by decide) ?_
  refine oz_iload dL_law_1688 rfl ?_
  refine oz_i2l dL_law_1690 ?_
  refine oz_lcmpS (h_eqL f2 (hv1 hk0) (hv hk0)) dL_law_1691 ?_
  refine oz_ifx_eq (tgt := 1697) dL_law_1692 (by decide) (fun _ => ?_) (fun q => absurd rfl q)
  refine oz_goto (tgt := 2455) dL_law_1697 (by decide) ?_
  exact oz_loc [(0, .ref 5000000), (1, .ref 0), (2, .ref 192), (3, .ref 201), (4, .ref 202), (5, .int (o_I ((4 * n : Nat) : Int)))] rfl (oz_mono (by omega) (by omega) (K g2 (h_xd_r hx1 f2) hmd2))
set_option maxRecDepth 100000 in
set_option maxHeartbeats 4000000 in
theorem lc_33 {l : Launch} (hl : l.stackTraces = false) {Z : o_Z} {post : o_P} {mc ms n d1 d2 : Nat} (hL : Z.2.2.2.1 ≤ 2048) (hn : 4 * n + 4 ≤ Z.2.2.2.1) (hmc : 57 ≤ mc) (hms : 12540 ≤ ms) (h1 : d1 < 16) (h2 : d2 < 16) {g M M' T T' : Nat → Nat → Int} {P P' : List (Nat → Nat → Int)} {S S' : Option (Nat → Nat → Int)} (hmd : o_md g M P S T) (k : Int) (hk : 0 ≤ k ∧ k ≤ 4) (v v2 : Int) (hv : k = 0 → v2 = v)
    (C1 : o_Ct l yL_requestedHours wL_requestedHours d1 o_no [.ref 0, .int (o_I (h_s Z (4 * n + 1))), .ref 201] o_N (o_mem g) 1 6 (h_x k 201 ((o_I v).toInt) M' P' S' T' g)) (C2 : ∀ g1, o_md g1 M P S T → o_Ct l yX12_requestedHours wX12_requestedHours d2 o_no [.ref 192, .int (o_I (h_s Z (4 * n + 1)))] o_N (o_mem g1) 0 0 (r_y k (.int (o_I v2)) M' P' S' T' g1))
    (K : ∀ g', o_xd g' M' P' S' T' → o_md g' M' P' S' T' → o_Vz Z l mL_law 16 w_al post 2455 (w_ls n) [] o_N (o_mem g') (mc - 57) (ms - 12540)) : o_Vz Z l mL_law 16 w_al post 1700 (w_ls n) [] o_N (o_mem g) mc ms := by
  obtain ⟨hk1, hk2⟩ := hk
  refine oz_loc [(0, .ref 5000000), (1, .ref 0), (2, .ref 192), (3, .ref 201), (4, .ref 202), (5, .int (o_I ((4 * n : Nat) : Int)))] rfl ?_
  refine oz_aload_n dL_law_1700 rfl ?_
  refine oz_aload_n dL_law_1701 rfl ?_
  refine oz_iload dL_law_1702 rfl ?_
  refine oz_iconst dL_law_1704 ?_
  refine oz_iadd dL_law_1705 ?_
  refine oz_sld (j := 4 * n + 1) (by omega) (by omega) hL dL_law_1706 ?_
  refine oz_aload_n dL_law_1707 rfl ?_
  refine oz_callSW [.ref 0, .int (o_I (h_s Z (4 * n + 1))), .ref 201] (rest := []) C1 (fun E n9 h9 q => by obtain ⟨q1, -⟩ := q; cases q1) dL_law_1708 ml_L_261 ys_L_requestedHours rfl (by decide) h1 (by omega) (by omega) rfl (Nat.le_of_ble_eq_true rfl) (fun _ z => z.elim) (fun _ z => z.elim) (Or.inl fun _ z => z) (fun v9 n9 h9 q9 => ?_)
  obtain ⟨q1, rfl, g1, rfl, hx1, f1, hv1⟩ := q9
  cases q1
  refine oz_istore dL_law_1711 (by decide) ?_
  refine oz_aload_n dL_law_1713 rfl ?_
  refine oz_aload_n dL_law_1714 rfl ?_
  refine oz_iload dL_law_1715 rfl ?_
  refine oz_iconst dL_law_1717 ?_
  refine oz_iadd dL_law_1718 ?_
  refine oz_sld (j := 4 * n + 1) (by omega) (by omega) hL dL_law_1719 ?_
  refine oz_cVm [.int (o_I (h_s Z (4 * n + 1)))] (C2 g1 (h_md_c hmd f1)) dL_law_1720 ml_L_263 yw_X12_requestedHours rfl (by decide) h2 (by decide) rfl rfl rfl (Nat.le_of_ble_eq_true rfl) (fun g2 q2 => ?_)
  obtain ⟨e7, hmd2, f2⟩ := q2
  refine oz_istore dL_law_1723 (by decide) ?_
  refine oz_aload_n dL_law_1725 rfl ?_
  refine oz_cVm [] (h_thrown hl 0 g2 k e7) dL_law_1726 ml_L_149 yw_X12_thrown rfl (by decide) (by decide) (by decide) rfl rfl rfl (Nat.le_of_ble_eq_true rfl) (fun g3 q3 => ?_)
  rw [q3]
  refine oz_iload dL_law_1729 rfl ?_
  refine oz_icmpS (tgt := 1736) dL_law_1731 (by decide) ?_
  refine oz_iload dL_law_1736 rfl ?_
  refine oz_ifx_ne (tgt := 1753) dL_law_1738 (by decide) (fun c9 => ?_) (fun c9 => ?_)
  · refine oz_goto (tgt := 2455) dL_law_1753 (by decide) ?_
    exact oz_loc [(0, .ref 5000000), (1, .ref 0), (2, .ref 192), (3, .ref 201), (4, .ref 202), (5, .int (o_I ((4 * n : Nat) : Int)))] rfl (oz_mono (by omega) (by omega) (K g2 (h_xd_r hx1 f2) hmd2))
  have hk0 : k = 0 := (o_eq ⟨by omega, by omega⟩ o_R0).mp c9
  refine oz_aload_n dL_law_1741 rfl ?_
  refine oz_iconst dL_law_1742 ?_
  refine oz_lald (f := fun j => Int64.ofInt (g2 201 j)) (len := 1) dL_law_1743 (by decide) rfl (by decide) (by decide) (by decide) ?_
  refine oz_iload dL_law_1744 rfl ?_
  refine oz_i2l dL_law_1746 ?_
  refine oz_lcmpS (h_eqL f2 (hv1 hk0) (hv hk0)) dL_law_1747 ?_
  refine oz_ifx_eq (tgt := 1753) dL_law_1748 (by decide) (fun _ => ?_) (fun q => absurd rfl q)
  refine oz_goto (tgt := 2455) dL_law_1753 (by decide) ?_
  exact oz_loc [(0, .ref 5000000), (1, .ref 0), (2, .ref 192), (3, .ref 201), (4, .ref 202), (5, .int (o_I ((4 * n : Nat) : Int)))] rfl (oz_mono (by omega) (by omega) (K g2 (h_xd_r hx1 f2) hmd2))
set_option maxRecDepth 100000 in
set_option maxHeartbeats 4000000 in
theorem lc_34 {l : Launch} {Z : o_Z} {post : o_P} {mc ms n d1 d2 mc1 ms1 : Nat} {al1 : Nat → Prop} (hmc : 57 ≤ mc) (hms : 12540 ≤ ms) (h1 : d1 < 16) (h2 : d2 < 16) (hm9 : mc1 ≤ 57) (hs9 : ms1 ≤ 12540) (hal : ∀ k, al1 k → k < 1000000) (hfr : (∀ k, ¬ al1 k) ∨ ((∀ q ∈ ([(0, .ref 5000000), (1, .ref 0), (2, .ref 192), (3, .ref 201), (4, .ref 202), (5, .int (o_I ((4 * n : Nat) : Int)))] : List (Nat × Value)), ∀ k, q.2 = .ref k → ¬ al1 k) ∧ ∀ v ∈ ([] : List Value), ∀ k, v = .ref k → ¬ al1 k)) {g M M' T T' : Nat → Nat → Int} {P P' : List (Nat → Nat → Int)} {S S' : Option (Nat → Nat → Int)} (hmd : o_md g M P S T) (v : Int)
    (C1 : o_Ct l yX11_refusedRenewals wX11_refusedRenewals d1 al1 [.ref 0] o_N (o_mem g) mc1 ms1 (x_x [] 0 (.int (o_I v)) M' P' S' T' g)) (C2 : ∀ g1, o_md g1 M P S T → o_Ct l yX12_refusedRenewals wX12_refusedRenewals d2 o_no [.ref 192] o_N (o_mem g1) 0 0 (r_y 0 (.int (o_I v)) M' P' S' T' g1))
    (K : ∀ g', o_xd g' M' P' S' T' → o_md g' M' P' S' T' → o_Vz Z l mL_law 16 w_al post 2455 (w_ls n) [] o_N (o_mem g') (mc - 57) (ms - 12540)) : o_Vz Z l mL_law 16 w_al post 1756 (w_ls n) [] o_N (o_mem g) mc ms := by
  refine oz_loc [(0, .ref 5000000), (1, .ref 0), (2, .ref 192), (3, .ref 201), (4, .ref 202), (5, .int (o_I ((4 * n : Nat) : Int)))] rfl ?_
  refine oz_aload_n dL_law_1756 rfl ?_
  refine oz_callV [] (rest := []) C1 dL_law_1757 ml_L_264 yw_X11_refusedRenewals rfl (by decide) h1 (Nat.le_trans hm9 hmc) (Nat.le_trans hs9 hms) (by decide) rfl rfl rfl (Nat.le_of_ble_eq_true rfl) hal (fun k q => hal k q) hfr (fun v9 n9 h9 q9 => ?_) (fun E n9 h9 q9 => by obtain ⟨-, -, q⟩ := q9; rcases q with ⟨-, q⟩ | ⟨E, q, -⟩; cases q; exact absurd rfl q)
  obtain ⟨rfl, ⟨g1, rfl, hx1, f1⟩, q⟩ := q9
  obtain ⟨-, q⟩ := q.resolve_right (fun z => by obtain ⟨E, z, -⟩ := z; exact absurd rfl z)
  cases q
  refine oz_aload_n dL_law_1760 rfl ?_
  refine oz_cVm [] (C2 g1 (h_md_c hmd (h_x9 f1))) dL_law_1761 ml_L_267 yw_X12_refusedRenewals rfl (by decide) h2 (by decide) rfl rfl rfl (Nat.le_of_ble_eq_true rfl) (fun g2 q2 => ?_)
  obtain ⟨-, hmd2, f2⟩ := q2
  refine oz_icmpS (tgt := 2455) dL_law_1764 (by decide) ?_
  exact oz_loc [(0, .ref 5000000), (1, .ref 0), (2, .ref 192), (3, .ref 201), (4, .ref 202), (5, .int (o_I ((4 * n : Nat) : Int)))] rfl (oz_mono (by omega) (by omega) (K g2 (h_xd_r hx1 f2) hmd2))
set_option maxRecDepth 100000 in
set_option maxHeartbeats 4000000 in
theorem lc_35 {l : Launch} {Z : o_Z} {post : o_P} {mc ms n d1 d2 mc1 ms1 : Nat} {al1 : Nat → Prop} (hmc : 57 ≤ mc) (hms : 12540 ≤ ms) (h1 : d1 < 16) (h2 : d2 < 16) (hm9 : mc1 ≤ 57) (hs9 : ms1 ≤ 12540) (hal : ∀ k, al1 k → k < 1000000) (hfr : (∀ k, ¬ al1 k) ∨ ((∀ q ∈ ([(0, .ref 5000000), (1, .ref 0), (2, .ref 192), (3, .ref 201), (4, .ref 202), (5, .int (o_I ((4 * n : Nat) : Int)))] : List (Nat × Value)), ∀ k, q.2 = .ref k → ¬ al1 k) ∧ ∀ v ∈ ([] : List Value), ∀ k, v = .ref k → ¬ al1 k)) {g M M' T T' : Nat → Nat → Int} {P P' : List (Nat → Nat → Int)} {S S' : Option (Nat → Nat → Int)} (hmd : o_md g M P S T) (v : Int)
    (C1 : o_Ct l yX11_officeCoins wX11_officeCoins d1 al1 [.ref 0] o_N (o_mem g) mc1 ms1 (x_x [] 0 (.int (o_I v)) M' P' S' T' g)) (C2 : ∀ g1, o_md g1 M P S T → o_Ct l yX12_officeCoins wX12_officeCoins d2 o_no [.ref 192] o_N (o_mem g1) 0 0 (r_y 0 (.int (o_I v)) M' P' S' T' g1))
    (K : ∀ g', o_xd g' M' P' S' T' → o_md g' M' P' S' T' → o_Vz Z l mL_law 16 w_al post 2455 (w_ls n) [] o_N (o_mem g') (mc - 57) (ms - 12540)) : o_Vz Z l mL_law 16 w_al post 1769 (w_ls n) [] o_N (o_mem g) mc ms := by
  refine oz_loc [(0, .ref 5000000), (1, .ref 0), (2, .ref 192), (3, .ref 201), (4, .ref 202), (5, .int (o_I ((4 * n : Nat) : Int)))] rfl ?_
  refine oz_aload_n dL_law_1769 rfl ?_
  refine oz_callV [] (rest := []) C1 dL_law_1770 ml_L_268 yw_X11_officeCoins rfl (by decide) h1 (Nat.le_trans hm9 hmc) (Nat.le_trans hs9 hms) (by decide) rfl rfl rfl (Nat.le_of_ble_eq_true rfl) hal (fun k q => hal k q) hfr (fun v9 n9 h9 q9 => ?_) (fun E n9 h9 q9 => by obtain ⟨-, -, q⟩ := q9; rcases q with ⟨-, q⟩ | ⟨E, q, -⟩; cases q; exact absurd rfl q)
  obtain ⟨rfl, ⟨g1, rfl, hx1, f1⟩, q⟩ := q9
  obtain ⟨-, q⟩ := q.resolve_right (fun z => by obtain ⟨E, z, -⟩ := z; exact absurd rfl z)
  cases q
  refine oz_aload_n dL_law_1773 rfl ?_
  refine oz_cVm [] (C2 g1 (h_md_c hmd (h_x9 f1))) dL_law_1774 ml_L_271 yw_X12_officeCoins rfl (by decide) h2 (by decide) rfl rfl rfl (Nat.le_of_ble_eq_true rfl) (fun g2 q2 => ?_)
  obtain ⟨-, hmd2, f2⟩ := q2
  refine oz_icmpS (tgt := 2455) dL_law_1777 (by decide) ?_
  exact oz_loc [(0, .ref 5000000), (1, .ref 0), (2, .ref 192), (3, .ref 201), (4, .ref 202), (5, .int (o_I ((4 * n : Nat) : Int)))] rfl (oz_mono (by omega) (by omega) (K g2 (h_xd_r hx1 f2) hmd2))
set_option maxRecDepth 100000 in
set_option maxHeartbeats 4000000 in
theorem lc_36 {l : Launch} (hl : l.stackTraces = false) {Z : o_Z} {post : o_P} {mc ms n d1 d2 : Nat} (hL : Z.2.2.2.1 ≤ 2048) (hn : 4 * n + 4 ≤ Z.2.2.2.1) (hmc : 57 ≤ mc) (hms : 12540 ≤ ms) (h1 : d1 < 16) (h2 : d2 < 16) {g M M' T T' : Nat → Nat → Int} {P P' : List (Nat → Nat → Int)} {S S' : Option (Nat → Nat → Int)} (hmd : o_md g M P S T) (k : Int) (hk : 0 ≤ k ∧ k ≤ 4) (v v2 : Int) (hv : k = 0 → v2 = v)
    (C1 : o_Ct l yL_shipByFines wL_shipByFines d1 o_no [.ref 0, .int (o_I (h_s Z (4 * n + 1))), .ref 201] o_N (o_mem g) 1 6 (h_x k 201 ((o_I v).toInt) M' P' S' T' g)) (C2 : ∀ g1, o_md g1 M P S T → o_Ct l yX12_shipByFines wX12_shipByFines d2 o_no [.ref 192, .int (o_I (h_s Z (4 * n + 1)))] o_N (o_mem g1) 0 0 (r_y k (.int (o_I v2)) M' P' S' T' g1))
    (K : ∀ g', o_xd g' M' P' S' T' → o_md g' M' P' S' T' → o_Vz Z l mL_law 16 w_al post 2455 (w_ls n) [] o_N (o_mem g') (mc - 57) (ms - 12540)) : o_Vz Z l mL_law 16 w_al post 1782 (w_ls n) [] o_N (o_mem g) mc ms := by
  obtain ⟨hk1, hk2⟩ := hk
  refine oz_loc [(0, .ref 5000000), (1, .ref 0), (2, .ref 192), (3, .ref 201), (4, .ref 202), (5, .int (o_I ((4 * n : Nat) : Int)))] rfl ?_
  refine oz_aload_n dL_law_1782 rfl ?_
  refine oz_aload_n dL_law_1783 rfl ?_
  refine oz_iload dL_law_1784 rfl ?_
  refine oz_iconst dL_law_1786 ?_
  refine oz_iadd dL_law_1787 ?_
  refine oz_sld (j := 4 * n + 1) (by omega) (by omega) hL dL_law_1788 ?_
  refine oz_aload_n dL_law_1789 rfl ?_
  refine oz_callSW [.ref 0, .int (o_I (h_s Z (4 * n + 1))), .ref 201] (rest := []) C1 (fun E n9 h9 q => by obtain ⟨q1, -⟩ := q; cases q1) dL_law_1790 ml_L_272 ys_L_shipByFines rfl (by decide) h1 (by omega) (by omega) rfl (Nat.le_of_ble_eq_true rfl) (fun _ z => z.elim) (fun _ z => z.elim) (Or.inl fun _ z => z) (fun v9 n9 h9 q9 => ?_)
  obtain ⟨q1, rfl, g1, rfl, hx1, f1, hv1⟩ := q9
  cases q1
  refine oz_istore dL_law_1793 (by decide) ?_
  refine oz_aload_n dL_law_1795 rfl ?_
  refine oz_aload_n dL_law_1796 rfl ?_
  refine oz_iload dL_law_1797 rfl ?_
  refine oz_iconst dL_law_1799 ?_
  refine oz_iadd dL_law_1800 ?_
  refine oz_sld (j := 4 * n + 1) (by omega) (by omega) hL dL_law_1801 ?_
  refine oz_cVm [.int (o_I (h_s Z (4 * n + 1)))] (C2 g1 (h_md_c hmd f1)) dL_law_1802 ml_L_274 yw_X12_shipByFines rfl (by decide) h2 (by decide) rfl rfl rfl (Nat.le_of_ble_eq_true rfl) (fun g2 q2 => ?_)
  obtain ⟨e7, hmd2, f2⟩ := q2
  refine oz_istore dL_law_1805 (by decide) ?_
  refine oz_aload_n dL_law_1807 rfl ?_
  refine oz_cVm [] (h_thrown hl 0 g2 k e7) dL_law_1808 ml_L_149 yw_X12_thrown rfl (by decide) (by decide) (by decide) rfl rfl rfl (Nat.le_of_ble_eq_true rfl) (fun g3 q3 => ?_)
  rw [q3]
  refine oz_iload dL_law_1811 rfl ?_
  refine oz_icmpS (tgt := 1818) dL_law_1813 (by decide) ?_
  refine oz_iload dL_law_1818 rfl ?_
  refine oz_ifx_ne (tgt := 1835) dL_law_1820 (by decide) (fun c9 => ?_) (fun c9 => ?_)
  · refine oz_goto (tgt := 2455) dL_law_1835 (by decide) ?_
    exact oz_loc [(0, .ref 5000000), (1, .ref 0), (2, .ref 192), (3, .ref 201), (4, .ref 202), (5, .int (o_I ((4 * n : Nat) : Int)))] rfl (oz_mono (by omega) (by omega) (K g2 (h_xd_r hx1 f2) hmd2))
  have hk0 : k = 0 := (o_eq ⟨by omega, by omega⟩ o_R0).mp c9
  refine oz_aload_n dL_law_1823 rfl ?_
  refine oz_iconst dL_law_1824 ?_
  refine oz_lald (f := fun j => Int64.ofInt (g2 201 j)) (len := 1) dL_law_1825 (by decide) rfl (by decide) (by decide) (by decide) ?_
  refine oz_iload dL_law_1826 rfl ?_
  refine oz_i2l dL_law_1828 ?_
  refine oz_lcmpS (h_eqL f2 (hv1 hk0) (hv hk0)) dL_law_1829 ?_
  refine oz_ifx_eq (tgt := 1835) dL_law_1830 (by decide) (fun _ => ?_) (fun q => absurd rfl q)
  refine oz_goto (tgt := 2455) dL_law_1835 (by decide) ?_
  exact oz_loc [(0, .ref 5000000), (1, .ref 0), (2, .ref 192), (3, .ref 201), (4, .ref 202), (5, .int (o_I ((4 * n : Nat) : Int)))] rfl (oz_mono (by omega) (by omega) (K g2 (h_xd_r hx1 f2) hmd2))
set_option maxRecDepth 100000 in
set_option maxHeartbeats 4000000 in
theorem lc_37 {l : Launch} (hl : l.stackTraces = false) {Z : o_Z} {post : o_P} {mc ms n d1 d2 : Nat} (hL : Z.2.2.2.1 ≤ 2048) (hn : 4 * n + 4 ≤ Z.2.2.2.1) (hmc : 57 ≤ mc) (hms : 12540 ≤ ms) (h1 : d1 < 16) (h2 : d2 < 16) {g M M' T T' : Nat → Nat → Int} {P P' : List (Nat → Nat → Int)} {S S' : Option (Nat → Nat → Int)} (hmd : o_md g M P S T) (k : Int) (hk : 0 ≤ k ∧ k ≤ 4) (v v2 : Int) (hv : k = 0 → v2 = v)
    (C1 : o_Ct l yL_lampByEnd wL_lampByEnd d1 o_no [.ref 0, .int (o_I (h_s Z (4 * n + 1))), .ref 201] o_N (o_mem g) 1 6 (h_x k 201 ((o_I v).toInt) M' P' S' T' g)) (C2 : ∀ g1, o_md g1 M P S T → o_Ct l yX12_lampByEnd wX12_lampByEnd d2 o_no [.ref 192, .int (o_I (h_s Z (4 * n + 1)))] o_N (o_mem g1) 0 0 (r_y k (.int (o_I v2)) M' P' S' T' g1))
    (K : ∀ g', o_xd g' M' P' S' T' → o_md g' M' P' S' T' → o_Vz Z l mL_law 16 w_al post 2455 (w_ls n) [] o_N (o_mem g') (mc - 57) (ms - 12540)) : o_Vz Z l mL_law 16 w_al post 1838 (w_ls n) [] o_N (o_mem g) mc ms := by
  obtain ⟨hk1, hk2⟩ := hk
  refine oz_loc [(0, .ref 5000000), (1, .ref 0), (2, .ref 192), (3, .ref 201), (4, .ref 202), (5, .int (o_I ((4 * n : Nat) : Int)))] rfl ?_
  refine oz_aload_n dL_law_1838 rfl ?_
  refine oz_aload_n dL_law_1839 rfl ?_
  refine oz_iload dL_law_1840 rfl ?_
  refine oz_iconst dL_law_1842 ?_
  refine oz_iadd dL_law_1843 ?_
  refine oz_sld (j := 4 * n + 1) (by omega) (by omega) hL dL_law_1844 ?_
  refine oz_aload_n dL_law_1845 rfl ?_
  refine oz_callSW [.ref 0, .int (o_I (h_s Z (4 * n + 1))), .ref 201] (rest := []) C1 (fun E n9 h9 q => by obtain ⟨q1, -⟩ := q; cases q1) dL_law_1846 ml_L_275 ys_L_lampByEnd rfl (by decide) h1 (by omega) (by omega) rfl (Nat.le_of_ble_eq_true rfl) (fun _ z => z.elim) (fun _ z => z.elim) (Or.inl fun _ z => z) (fun v9 n9 h9 q9 => ?_)
  obtain ⟨q1, rfl, g1, rfl, hx1, f1, hv1⟩ := q9
  cases q1
  refine oz_istore dL_law_1849 (by decide) ?_
  refine oz_aload_n dL_law_1851 rfl ?_
  refine oz_aload_n dL_law_1852 rfl ?_
  refine oz_iload dL_law_1853 rfl ?_
  refine oz_iconst dL_law_1855 ?_
  refine oz_iadd dL_law_1856 ?_
  refine oz_sld (j := 4 * n + 1) (by omega) (by omega) hL dL_law_1857 ?_
  refine oz_cVm [.int (o_I (h_s Z (4 * n + 1)))] (C2 g1 (h_md_c hmd f1)) dL_law_1858 ml_L_277 yw_X12_lampByEnd rfl (by decide) h2 (by decide) rfl rfl rfl (Nat.le_of_ble_eq_true rfl) (fun g2 q2 => ?_)
  obtain ⟨e7, hmd2, f2⟩ := q2
  refine oz_istore dL_law_1861 (by decide) ?_
  refine oz_aload_n dL_law_1863 rfl ?_
  refine oz_cVm [] (h_thrown hl 0 g2 k e7) dL_law_1864 ml_L_149 yw_X12_thrown rfl (by decide) (by decide) (by decide) rfl rfl rfl (Nat.le_of_ble_eq_true rfl) (fun g3 q3 => ?_)
  rw [q3]
  refine oz_iload dL_law_1867 rfl ?_
  refine oz_icmpS (tgt := 1874) dL_law_1869 (by decide) ?_
  refine oz_iload dL_law_1874 rfl ?_
  refine oz_ifx_ne (tgt := 1891) dL_law_1876 (by decide) (fun c9 => ?_) (fun c9 => ?_)
  · refine oz_goto (tgt := 2455) dL_law_1891 (by decide) ?_
    exact oz_loc [(0, .ref 5000000), (1, .ref 0), (2, .ref 192), (3, .ref 201), (4, .ref 202), (5, .int (o_I ((4 * n : Nat) : Int)))] rfl (oz_mono (by omega) (by omega) (K g2 (h_xd_r hx1 f2) hmd2))
  have hk0 : k = 0 := (o_eq ⟨by omega, by omega⟩ o_R0).mp c9
  refine oz_aload_n dL_law_1879 rfl ?_
  refine oz_iconst dL_law_1880 ?_
  refine oz_lald (f := fun j => Int64.ofInt (g2 201 j)) (len := 1) dL_law_1881 (by decide) rfl (by decide) (by decide) (by decide) ?_
  refine oz_iload dL_law_1882 rfl ?_
  refine oz_i2l dL_law_1884 ?_
  refine oz_lcmpS (h_eqL f2 (hv1 hk0) (hv hk0)) dL_law_1885 ?_
  refine oz_ifx_eq (tgt := 1891) dL_law_1886 (by decide) (fun _ => ?_) (fun q => absurd rfl q)
  refine oz_goto (tgt := 2455) dL_law_1891 (by decide) ?_
  exact oz_loc [(0, .ref 5000000), (1, .ref 0), (2, .ref 192), (3, .ref 201), (4, .ref 202), (5, .int (o_I ((4 * n : Nat) : Int)))] rfl (oz_mono (by omega) (by omega) (K g2 (h_xd_r hx1 f2) hmd2))
set_option maxRecDepth 100000 in
set_option maxHeartbeats 4000000 in
theorem lc_40 {l : Launch} {Z : o_Z} {post : o_P} {mc ms n d1 d2 mc1 ms1 : Nat} {al1 : Nat → Prop} (hmc : 57 ≤ mc) (hms : 12540 ≤ ms) (h1 : d1 < 16) (h2 : d2 < 16) (hm9 : mc1 ≤ 57) (hs9 : ms1 ≤ 12540) (hal : ∀ k, al1 k → k < 1000000) (hfr : (∀ k, ¬ al1 k) ∨ ((∀ q ∈ ([(0, .ref 5000000), (1, .ref 0), (2, .ref 192), (3, .ref 201), (4, .ref 202), (5, .int (o_I ((4 * n : Nat) : Int)))] : List (Nat × Value)), ∀ k, q.2 = .ref k → ¬ al1 k) ∧ ∀ v ∈ ([] : List Value), ∀ k, v = .ref k → ¬ al1 k)) {g M M' T T' : Nat → Nat → Int} {P P' : List (Nat → Nat → Int)} {S S' : Option (Nat → Nat → Int)} (hmd : o_md g M P S T) (v : Int)
    (C1 : o_Ct l yX11_isConsistent wX11_isConsistent d1 al1 [.ref 0] o_N (o_mem g) mc1 ms1 (x_x [] 0 (.int (o_I v)) M' P' S' T' g)) (C2 : ∀ g1, o_md g1 M P S T → o_Ct l yX12_isConsistent wX12_isConsistent d2 o_no [.ref 192] o_N (o_mem g1) 0 0 (r_y 0 (.int (o_I v)) M' P' S' T' g1))
    (K : ∀ g', o_xd g' M' P' S' T' → o_md g' M' P' S' T' → o_Vz Z l mL_law 16 w_al post 2455 (w_ls n) [] o_N (o_mem g') (mc - 57) (ms - 12540)) : o_Vz Z l mL_law 16 w_al post 2025 (w_ls n) [] o_N (o_mem g) mc ms := by
  refine oz_loc [(0, .ref 5000000), (1, .ref 0), (2, .ref 192), (3, .ref 201), (4, .ref 202), (5, .int (o_I ((4 * n : Nat) : Int)))] rfl ?_
  refine oz_aload_n dL_law_2025 rfl ?_
  refine oz_callV [] (rest := []) C1 dL_law_2026 ml_L_285 yw_X11_isConsistent rfl (by decide) h1 (Nat.le_trans hm9 hmc) (Nat.le_trans hs9 hms) (by decide) rfl rfl rfl (Nat.le_of_ble_eq_true rfl) hal (fun k q => hal k q) hfr (fun v9 n9 h9 q9 => ?_) (fun E n9 h9 q9 => by obtain ⟨-, -, q⟩ := q9; rcases q with ⟨-, q⟩ | ⟨E, q, -⟩; cases q; exact absurd rfl q)
  obtain ⟨rfl, ⟨g1, rfl, hx1, f1⟩, q⟩ := q9
  obtain ⟨-, q⟩ := q.resolve_right (fun z => by obtain ⟨E, z, -⟩ := z; exact absurd rfl z)
  cases q
  refine oz_aload_n dL_law_2029 rfl ?_
  refine oz_cVm [] (C2 g1 (h_md_c hmd (h_x9 f1))) dL_law_2030 ml_L_289 yw_X12_isConsistent rfl (by decide) h2 (by decide) rfl rfl rfl (Nat.le_of_ble_eq_true rfl) (fun g2 q2 => ?_)
  obtain ⟨-, hmd2, f2⟩ := q2
  refine oz_icmpS (tgt := 2455) dL_law_2033 (by decide) ?_
  exact oz_loc [(0, .ref 5000000), (1, .ref 0), (2, .ref 192), (3, .ref 201), (4, .ref 202), (5, .int (o_I ((4 * n : Nat) : Int)))] rfl (oz_mono (by omega) (by omega) (K g2 (h_xd_r hx1 f2) hmd2))
set_option maxRecDepth 100000 in
set_option maxHeartbeats 4000000 in
theorem lc_42 {l : Launch} (hl : l.stackTraces = false) {Z : o_Z} {post : o_P} {mc ms n d1 d2 : Nat} (hL : Z.2.2.2.1 ≤ 2048) (hn : 4 * n + 4 ≤ Z.2.2.2.1) (hmc : 57 ≤ mc) (hms : 12540 ≤ ms) (h1 : d1 < 16) (h2 : d2 < 16) {g M M' T T' : Nat → Nat → Int} {P P' : List (Nat → Nat → Int)} {S S' : Option (Nat → Nat → Int)} (hmd : o_md g M P S T) (k : Int) (hk : 0 ≤ k ∧ k ≤ 4) (v v2 : Int) (hv : k = 0 → v2 = v)
    (C1 : o_Ct l yL_runCommands wL_runCommands d1 o_no [.ref 0, .ref 201] o_N (o_mem g) 1 6 (h_x k 201 ((o_I v).toInt) M' P' S' T' g)) (C2 : ∀ g1, o_md g1 M P S T → o_Ct l yX12_runCommands wX12_runCommands d2 o_no [.ref 192] o_N (o_mem g1) 0 0 (r_y k (.int (o_I v2)) M' P' S' T' g1))
    (K : ∀ g', o_xd g' M' P' S' T' → o_md g' M' P' S' T' → o_Vz Z l mL_law 16 w_al post 2455 (w_ls n) [] o_N (o_mem g') (mc - 57) (ms - 12540)) : o_Vz Z l mL_law 16 w_al post 2096 (w_ls n) [] o_N (o_mem g) mc ms := by
  obtain ⟨hk1, hk2⟩ := hk
  refine oz_loc [(0, .ref 5000000), (1, .ref 0), (2, .ref 192), (3, .ref 201), (4, .ref 202), (5, .int (o_I ((4 * n : Nat) : Int)))] rfl ?_
  refine oz_aload_n dL_law_2096 rfl ?_
  refine oz_aload_n dL_law_2097 rfl ?_
  refine oz_callSW [.ref 0, .ref 201] (rest := []) C1 (fun E n9 h9 q => by obtain ⟨q1, -⟩ := q; cases q1) dL_law_2098 ml_L_294 ys_L_runCommands rfl (by decide) h1 (by omega) (by omega) rfl (Nat.le_of_ble_eq_true rfl) (fun _ z => z.elim) (fun _ z => z.elim) (Or.inl fun _ z => z) (fun v9 n9 h9 q9 => ?_)
  obtain ⟨q1, rfl, g1, rfl, hx1, f1, hv1⟩ := q9
  cases q1
  refine oz_istore dL_law_2101 (by decide) ?_
  refine oz_aload_n dL_law_2103 rfl ?_
  refine oz_cVm [] (C2 g1 (h_md_c hmd f1)) dL_law_2104 ml_L_296 yw_X12_runCommands rfl (by decide) h2 (by decide) rfl rfl rfl (Nat.le_of_ble_eq_true rfl) (fun g2 q2 => ?_)
  obtain ⟨e7, hmd2, f2⟩ := q2
  refine oz_istore dL_law_2107 (by decide) ?_
  refine oz_aload_n dL_law_2109 rfl ?_
  refine oz_cVm [] (h_thrown hl 0 g2 k e7) dL_law_2110 ml_L_149 yw_X12_thrown rfl (by decide) (by decide) (by decide) rfl rfl rfl (Nat.le_of_ble_eq_true rfl) (fun g3 q3 => ?_)
  rw [q3]
  refine oz_iload dL_law_2113 rfl ?_
  refine oz_icmpS (tgt := 2120) dL_law_2115 (by decide) ?_
  refine oz_iload dL_law_2120 rfl ?_
  refine oz_ifx_ne (tgt := 2137) dL_law_2122 (by decide) (fun c9 => ?_) (fun c9 => ?_)
  · refine oz_goto (tgt := 2455) dL_law_2137 (by decide) ?_
    exact oz_loc [(0, .ref 5000000), (1, .ref 0), (2, .ref 192), (3, .ref 201), (4, .ref 202), (5, .int (o_I ((4 * n : Nat) : Int)))] rfl (oz_mono (by omega) (by omega) (K g2 (h_xd_r hx1 f2) hmd2))
  have hk0 : k = 0 := (o_eq ⟨by omega, by omega⟩ o_R0).mp c9
  refine oz_aload_n dL_law_2125 rfl ?_
  refine oz_iconst dL_law_2126 ?_
  refine oz_lald (f := fun j => Int64.ofInt (g2 201 j)) (len := 1) dL_law_2127 (by decide) rfl (by decide) (by decide) (by decide) ?_
  refine oz_iload dL_law_2128 rfl ?_
  refine oz_i2l dL_law_2130 ?_
  refine oz_lcmpS (h_eqL f2 (hv1 hk0) (hv hk0)) dL_law_2131 ?_
  refine oz_ifx_eq (tgt := 2137) dL_law_2132 (by decide) (fun _ => ?_) (fun q => absurd rfl q)
  refine oz_goto (tgt := 2455) dL_law_2137 (by decide) ?_
  exact oz_loc [(0, .ref 5000000), (1, .ref 0), (2, .ref 192), (3, .ref 201), (4, .ref 202), (5, .int (o_I ((4 * n : Nat) : Int)))] rfl (oz_mono (by omega) (by omega) (K g2 (h_xd_r hx1 f2) hmd2))
set_option maxRecDepth 100000 in
set_option maxHeartbeats 4000000 in
theorem lc_43 {l : Launch} (hl : l.stackTraces = false) {Z : o_Z} {post : o_P} {mc ms n d1 d2 : Nat} (hL : Z.2.2.2.1 ≤ 2048) (hn : 4 * n + 4 ≤ Z.2.2.2.1) (hmc : 57 ≤ mc) (hms : 12540 ≤ ms) (h1 : d1 < 16) (h2 : d2 < 16) {g M M' T T' : Nat → Nat → Int} {P P' : List (Nat → Nat → Int)} {S S' : Option (Nat → Nat → Int)} (hmd : o_md g M P S T) (k : Int) (hk : 0 ≤ k ∧ k ≤ 4) (v v2 : Int) (hv : k = 0 → v2 = v)
    (C1 : o_Ct l yL_errorPosition wL_errorPosition d1 o_no [.ref 0, .ref 201] o_N (o_mem g) 1 6 (h_x k 201 ((o_I v).toInt) M' P' S' T' g)) (C2 : ∀ g1, o_md g1 M P S T → o_Ct l yX12_errorPosition wX12_errorPosition d2 o_no [.ref 192] o_N (o_mem g1) 0 0 (r_y k (.int (o_I v2)) M' P' S' T' g1))
    (K : ∀ g', o_xd g' M' P' S' T' → o_md g' M' P' S' T' → o_Vz Z l mL_law 16 w_al post 2455 (w_ls n) [] o_N (o_mem g') (mc - 57) (ms - 12540)) : o_Vz Z l mL_law 16 w_al post 2140 (w_ls n) [] o_N (o_mem g) mc ms := by
  obtain ⟨hk1, hk2⟩ := hk
  refine oz_loc [(0, .ref 5000000), (1, .ref 0), (2, .ref 192), (3, .ref 201), (4, .ref 202), (5, .int (o_I ((4 * n : Nat) : Int)))] rfl ?_
  refine oz_aload_n dL_law_2140 rfl ?_
  refine oz_aload_n dL_law_2141 rfl ?_
  refine oz_callSW [.ref 0, .ref 201] (rest := []) C1 (fun E n9 h9 q => by obtain ⟨q1, -⟩ := q; cases q1) dL_law_2142 ml_L_297 ys_L_errorPosition rfl (by decide) h1 (by omega) (by omega) rfl (Nat.le_of_ble_eq_true rfl) (fun _ z => z.elim) (fun _ z => z.elim) (Or.inl fun _ z => z) (fun v9 n9 h9 q9 => ?_)
  obtain ⟨q1, rfl, g1, rfl, hx1, f1, hv1⟩ := q9
  cases q1
  refine oz_istore dL_law_2145 (by decide) ?_
  refine oz_aload_n dL_law_2147 rfl ?_
  refine oz_cVm [] (C2 g1 (h_md_c hmd f1)) dL_law_2148 ml_L_299 yw_X12_errorPosition rfl (by decide) h2 (by decide) rfl rfl rfl (Nat.le_of_ble_eq_true rfl) (fun g2 q2 => ?_)
  obtain ⟨e7, hmd2, f2⟩ := q2
  refine oz_istore dL_law_2151 (by decide) ?_
  refine oz_aload_n dL_law_2153 rfl ?_
  refine oz_cVm [] (h_thrown hl 0 g2 k e7) dL_law_2154 ml_L_149 yw_X12_thrown rfl (by decide) (by decide) (by decide) rfl rfl rfl (Nat.le_of_ble_eq_true rfl) (fun g3 q3 => ?_)
  rw [q3]
  refine oz_iload dL_law_2157 rfl ?_
  refine oz_icmpS (tgt := 2164) dL_law_2159 (by decide) ?_
  refine oz_iload dL_law_2164 rfl ?_
  refine oz_ifx_ne (tgt := 2181) dL_law_2166 (by decide) (fun c9 => ?_) (fun c9 => ?_)
  · refine oz_goto (tgt := 2455) dL_law_2181 (by decide) ?_
    exact oz_loc [(0, .ref 5000000), (1, .ref 0), (2, .ref 192), (3, .ref 201), (4, .ref 202), (5, .int (o_I ((4 * n : Nat) : Int)))] rfl (oz_mono (by omega) (by omega) (K g2 (h_xd_r hx1 f2) hmd2))
  have hk0 : k = 0 := (o_eq ⟨by omega, by omega⟩ o_R0).mp c9
  refine oz_aload_n dL_law_2169 rfl ?_
  refine oz_iconst dL_law_2170 ?_
  refine oz_lald (f := fun j => Int64.ofInt (g2 201 j)) (len := 1) dL_law_2171 (by decide) rfl (by decide) (by decide) (by decide) ?_
  refine oz_iload dL_law_2172 rfl ?_
  refine oz_i2l dL_law_2174 ?_
  refine oz_lcmpS (h_eqL f2 (hv1 hk0) (hv hk0)) dL_law_2175 ?_
  refine oz_ifx_eq (tgt := 2181) dL_law_2176 (by decide) (fun _ => ?_) (fun q => absurd rfl q)
  refine oz_goto (tgt := 2455) dL_law_2181 (by decide) ?_
  exact oz_loc [(0, .ref 5000000), (1, .ref 0), (2, .ref 192), (3, .ref 201), (4, .ref 202), (5, .int (o_I ((4 * n : Nat) : Int)))] rfl (oz_mono (by omega) (by omega) (K g2 (h_xd_r hx1 f2) hmd2))
set_option maxRecDepth 100000 in
set_option maxHeartbeats 4000000 in
theorem lc_44 {l : Launch} (hl : l.stackTraces = false) {Z : o_Z} {post : o_P} {mc ms n d1 d2 : Nat} (hL : Z.2.2.2.1 ≤ 2048) (hn : 4 * n + 4 ≤ Z.2.2.2.1) (hmc : 57 ≤ mc) (hms : 12540 ≤ ms) (h1 : d1 < 16) (h2 : d2 < 16) {g M M' T T' : Nat → Nat → Int} {P P' : List (Nat → Nat → Int)} {S S' : Option (Nat → Nat → Int)} (hmd : o_md g M P S T) (k : Int) (hk : 0 ≤ k ∧ k ≤ 4) (v v2 : Int) (hv : k = 0 → v2 = v)
    (C1 : o_Ct l yL_failedCommand wL_failedCommand d1 o_no [.ref 0, .ref 201] o_N (o_mem g) 1 6 (h_x k 201 ((o_I v).toInt) M' P' S' T' g)) (C2 : ∀ g1, o_md g1 M P S T → o_Ct l yX12_failedCommand wX12_failedCommand d2 o_no [.ref 192] o_N (o_mem g1) 0 0 (r_y k (.int (o_I v2)) M' P' S' T' g1))
    (K : ∀ g', o_xd g' M' P' S' T' → o_md g' M' P' S' T' → o_Vz Z l mL_law 16 w_al post 2455 (w_ls n) [] o_N (o_mem g') (mc - 57) (ms - 12540)) : o_Vz Z l mL_law 16 w_al post 2184 (w_ls n) [] o_N (o_mem g) mc ms := by
  obtain ⟨hk1, hk2⟩ := hk
  refine oz_loc [(0, .ref 5000000), (1, .ref 0), (2, .ref 192), (3, .ref 201), (4, .ref 202), (5, .int (o_I ((4 * n : Nat) : Int)))] rfl ?_
  refine oz_aload_n dL_law_2184 rfl ?_
  refine oz_aload_n dL_law_2185 rfl ?_
  refine oz_callSW [.ref 0, .ref 201] (rest := []) C1 (fun E n9 h9 q => by obtain ⟨q1, -⟩ := q; cases q1) dL_law_2186 ml_L_300 ys_L_failedCommand rfl (by decide) h1 (by omega) (by omega) rfl (Nat.le_of_ble_eq_true rfl) (fun _ z => z.elim) (fun _ z => z.elim) (Or.inl fun _ z => z) (fun v9 n9 h9 q9 => ?_)
  obtain ⟨q1, rfl, g1, rfl, hx1, f1, hv1⟩ := q9
  cases q1
  refine oz_istore dL_law_2189 (by decide) ?_
  refine oz_aload_n dL_law_2191 rfl ?_
  refine oz_cVm [] (C2 g1 (h_md_c hmd f1)) dL_law_2192 ml_L_302 yw_X12_failedCommand rfl (by decide) h2 (by decide) rfl rfl rfl (Nat.le_of_ble_eq_true rfl) (fun g2 q2 => ?_)
  obtain ⟨e7, hmd2, f2⟩ := q2
  refine oz_istore dL_law_2195 (by decide) ?_
  refine oz_aload_n dL_law_2197 rfl ?_
  refine oz_cVm [] (h_thrown hl 0 g2 k e7) dL_law_2198 ml_L_149 yw_X12_thrown rfl (by decide) (by decide) (by decide) rfl rfl rfl (Nat.le_of_ble_eq_true rfl) (fun g3 q3 => ?_)
  rw [q3]
  refine oz_iload dL_law_2201 rfl ?_
  refine oz_icmpS (tgt := 2208) dL_law_2203 (by decide) ?_
  refine oz_iload dL_law_2208 rfl ?_
  refine oz_ifx_ne (tgt := 2225) dL_law_2210 (by decide) (fun c9 => ?_) (fun c9 => ?_)
  · refine oz_goto (tgt := 2455) dL_law_2225 (by decide) ?_
    exact oz_loc [(0, .ref 5000000), (1, .ref 0), (2, .ref 192), (3, .ref 201), (4, .ref 202), (5, .int (o_I ((4 * n : Nat) : Int)))] rfl (oz_mono (by omega) (by omega) (K g2 (h_xd_r hx1 f2) hmd2))
  have hk0 : k = 0 := (o_eq ⟨by omega, by omega⟩ o_R0).mp c9
  refine oz_aload_n dL_law_2213 rfl ?_
  refine oz_iconst dL_law_2214 ?_
  refine oz_lald (f := fun j => Int64.ofInt (g2 201 j)) (len := 1) dL_law_2215 (by decide) rfl (by decide) (by decide) (by decide) ?_
  refine oz_iload dL_law_2216 rfl ?_
  refine oz_i2l dL_law_2218 ?_
  refine oz_lcmpS (h_eqL f2 (hv1 hk0) (hv hk0)) dL_law_2219 ?_
  refine oz_ifx_eq (tgt := 2225) dL_law_2220 (by decide) (fun _ => ?_) (fun q => absurd rfl q)
  refine oz_goto (tgt := 2455) dL_law_2225 (by decide) ?_
  exact oz_loc [(0, .ref 5000000), (1, .ref 0), (2, .ref 192), (3, .ref 201), (4, .ref 202), (5, .int (o_I ((4 * n : Nat) : Int)))] rfl (oz_mono (by omega) (by omega) (K g2 (h_xd_r hx1 f2) hmd2))
set_option maxRecDepth 100000 in
set_option maxHeartbeats 4000000 in
theorem lc_45 {l : Launch} (hl : l.stackTraces = false) {Z : o_Z} {post : o_P} {mc ms n d1 d2 : Nat} (hL : Z.2.2.2.1 ≤ 2048) (hn : 4 * n + 4 ≤ Z.2.2.2.1) (hmc : 57 ≤ mc) (hms : 12540 ≤ ms) (h1 : d1 < 16) (h2 : d2 < 16) {g M M' T T' : Nat → Nat → Int} {P P' : List (Nat → Nat → Int)} {S S' : Option (Nat → Nat → Int)} (hmd : o_md g M P S T) (k : Int) (hk : 0 ≤ k ∧ k ≤ 4) (v v2 : Int) (hv : k = 0 → v2 = v)
    (C1 : o_Ct l yL_failureReason wL_failureReason d1 o_no [.ref 0, .ref 201] o_N (o_mem g) 1 6 (h_x k 201 ((o_I v).toInt) M' P' S' T' g)) (C2 : ∀ g1, o_md g1 M P S T → o_Ct l yX12_failureReason wX12_failureReason d2 o_no [.ref 192] o_N (o_mem g1) 0 0 (r_y k (.int (o_I v2)) M' P' S' T' g1))
    (K : ∀ g', o_xd g' M' P' S' T' → o_md g' M' P' S' T' → o_Vz Z l mL_law 16 w_al post 2455 (w_ls n) [] o_N (o_mem g') (mc - 57) (ms - 12540)) : o_Vz Z l mL_law 16 w_al post 2228 (w_ls n) [] o_N (o_mem g) mc ms := by
  obtain ⟨hk1, hk2⟩ := hk
  refine oz_loc [(0, .ref 5000000), (1, .ref 0), (2, .ref 192), (3, .ref 201), (4, .ref 202), (5, .int (o_I ((4 * n : Nat) : Int)))] rfl ?_
  refine oz_aload_n dL_law_2228 rfl ?_
  refine oz_aload_n dL_law_2229 rfl ?_
  refine oz_callSW [.ref 0, .ref 201] (rest := []) C1 (fun E n9 h9 q => by obtain ⟨q1, -⟩ := q; cases q1) dL_law_2230 ml_L_303 ys_L_failureReason rfl (by decide) h1 (by omega) (by omega) rfl (Nat.le_of_ble_eq_true rfl) (fun _ z => z.elim) (fun _ z => z.elim) (Or.inl fun _ z => z) (fun v9 n9 h9 q9 => ?_)
  obtain ⟨q1, rfl, g1, rfl, hx1, f1, hv1⟩ := q9
  cases q1
  refine oz_istore dL_law_2233 (by decide) ?_
  refine oz_aload_n dL_law_2235 rfl ?_
  refine oz_cVm [] (C2 g1 (h_md_c hmd f1)) dL_law_2236 ml_L_305 yw_X12_failureReason rfl (by decide) h2 (by decide) rfl rfl rfl (Nat.le_of_ble_eq_true rfl) (fun g2 q2 => ?_)
  obtain ⟨e7, hmd2, f2⟩ := q2
  refine oz_istore dL_law_2239 (by decide) ?_
  refine oz_aload_n dL_law_2241 rfl ?_
  refine oz_cVm [] (h_thrown hl 0 g2 k e7) dL_law_2242 ml_L_149 yw_X12_thrown rfl (by decide) (by decide) (by decide) rfl rfl rfl (Nat.le_of_ble_eq_true rfl) (fun g3 q3 => ?_)
  rw [q3]
  refine oz_iload dL_law_2245 rfl ?_
  refine oz_icmpS (tgt := 2252) dL_law_2247 (by decide) ?_
  refine oz_iload dL_law_2252 rfl ?_
  refine oz_ifx_ne (tgt := 2269) dL_law_2254 (by decide) (fun c9 => ?_) (fun c9 => ?_)
  · refine oz_goto (tgt := 2455) dL_law_2269 (by decide) ?_
    exact oz_loc [(0, .ref 5000000), (1, .ref 0), (2, .ref 192), (3, .ref 201), (4, .ref 202), (5, .int (o_I ((4 * n : Nat) : Int)))] rfl (oz_mono (by omega) (by omega) (K g2 (h_xd_r hx1 f2) hmd2))
  have hk0 : k = 0 := (o_eq ⟨by omega, by omega⟩ o_R0).mp c9
  refine oz_aload_n dL_law_2257 rfl ?_
  refine oz_iconst dL_law_2258 ?_
  refine oz_lald (f := fun j => Int64.ofInt (g2 201 j)) (len := 1) dL_law_2259 (by decide) rfl (by decide) (by decide) (by decide) ?_
  refine oz_iload dL_law_2260 rfl ?_
  refine oz_i2l dL_law_2262 ?_
  refine oz_lcmpS (h_eqL f2 (hv1 hk0) (hv hk0)) dL_law_2263 ?_
  refine oz_ifx_eq (tgt := 2269) dL_law_2264 (by decide) (fun _ => ?_) (fun q => absurd rfl q)
  refine oz_goto (tgt := 2455) dL_law_2269 (by decide) ?_
  exact oz_loc [(0, .ref 5000000), (1, .ref 0), (2, .ref 192), (3, .ref 201), (4, .ref 202), (5, .int (o_I ((4 * n : Nat) : Int)))] rfl (oz_mono (by omega) (by omega) (K g2 (h_xd_r hx1 f2) hmd2))
set_option maxRecDepth 100000 in
set_option maxHeartbeats 4000000 in
theorem lc_47 {l : Launch} (hl : l.stackTraces = false) {Z : o_Z} {post : o_P} {mc ms n d1 d2 : Nat} (hL : Z.2.2.2.1 ≤ 2048) (hn : 4 * n + 4 ≤ Z.2.2.2.1) (hmc : 57 ≤ mc) (hms : 12540 ≤ ms) (h1 : d1 < 16) (h2 : d2 < 16) {g M M' T T' : Nat → Nat → Int} {P P' : List (Nat → Nat → Int)} {S S' : Option (Nat → Nat → Int)} (hmd : o_md g M P S T) (k : Int) (hk : 0 ≤ k ∧ k ≤ 4) (v v2 : Int) (hv : k = 0 → v2 = v)
    (C1 : o_Ct l yL_outputChar wL_outputChar d1 o_no [.ref 0, .int (o_I (h_s Z (4 * n + 1))), .ref 201] o_N (o_mem g) 1 6 (h_x k 201 ((o_I v).toInt) M' P' S' T' g)) (C2 : ∀ g1, o_md g1 M P S T → o_Ct l yX12_outputChar wX12_outputChar d2 o_no [.ref 192, .int (o_I (h_s Z (4 * n + 1)))] o_N (o_mem g1) 0 0 (r_y k (.int (o_I v2)) M' P' S' T' g1))
    (K : ∀ g', o_xd g' M' P' S' T' → o_md g' M' P' S' T' → o_Vz Z l mL_law 16 w_al post 2455 (w_ls n) [] o_N (o_mem g') (mc - 57) (ms - 12540)) : o_Vz Z l mL_law 16 w_al post 2285 (w_ls n) [] o_N (o_mem g) mc ms := by
  obtain ⟨hk1, hk2⟩ := hk
  refine oz_loc [(0, .ref 5000000), (1, .ref 0), (2, .ref 192), (3, .ref 201), (4, .ref 202), (5, .int (o_I ((4 * n : Nat) : Int)))] rfl ?_
  refine oz_aload_n dL_law_2285 rfl ?_
  refine oz_aload_n dL_law_2286 rfl ?_
  refine oz_iload dL_law_2287 rfl ?_
  refine oz_iconst dL_law_2289 ?_
  refine oz_iadd dL_law_2290 ?_
  refine oz_sld (j := 4 * n + 1) (by omega) (by omega) hL dL_law_2291 ?_
  refine oz_aload_n dL_law_2292 rfl ?_
  refine oz_callSW [.ref 0, .int (o_I (h_s Z (4 * n + 1))), .ref 201] (rest := []) C1 (fun E n9 h9 q => by obtain ⟨q1, -⟩ := q; cases q1) dL_law_2293 ml_L_310 ys_L_outputChar rfl (by decide) h1 (by omega) (by omega) rfl (Nat.le_of_ble_eq_true rfl) (fun _ z => z.elim) (fun _ z => z.elim) (Or.inl fun _ z => z) (fun v9 n9 h9 q9 => ?_)
  obtain ⟨q1, rfl, g1, rfl, hx1, f1, hv1⟩ := q9
  cases q1
  refine oz_istore dL_law_2296 (by decide) ?_
  refine oz_aload_n dL_law_2298 rfl ?_
  refine oz_aload_n dL_law_2299 rfl ?_
  refine oz_iload dL_law_2300 rfl ?_
  refine oz_iconst dL_law_2302 ?_
  refine oz_iadd dL_law_2303 ?_
  refine oz_sld (j := 4 * n + 1) (by omega) (by omega) hL dL_law_2304 ?_
  refine oz_cVm [.int (o_I (h_s Z (4 * n + 1)))] (C2 g1 (h_md_c hmd f1)) dL_law_2305 ml_L_312 yw_X12_outputChar rfl (by decide) h2 (by decide) rfl rfl rfl (Nat.le_of_ble_eq_true rfl) (fun g2 q2 => ?_)
  obtain ⟨e7, hmd2, f2⟩ := q2
  refine oz_istore dL_law_2308 (by decide) ?_
  refine oz_aload_n dL_law_2310 rfl ?_
  refine oz_cVm [] (h_thrown hl 0 g2 k e7) dL_law_2311 ml_L_149 yw_X12_thrown rfl (by decide) (by decide) (by decide) rfl rfl rfl (Nat.le_of_ble_eq_true rfl) (fun g3 q3 => ?_)
  rw [q3]
  refine oz_iload dL_law_2314 rfl ?_
  refine oz_icmpS (tgt := 2321) dL_law_2316 (by decide) ?_
  refine oz_iload dL_law_2321 rfl ?_
  refine oz_ifx_ne (tgt := 2338) dL_law_2323 (by decide) (fun c9 => ?_) (fun c9 => ?_)
  · refine oz_goto (tgt := 2455) dL_law_2338 (by decide) ?_
    exact oz_loc [(0, .ref 5000000), (1, .ref 0), (2, .ref 192), (3, .ref 201), (4, .ref 202), (5, .int (o_I ((4 * n : Nat) : Int)))] rfl (oz_mono (by omega) (by omega) (K g2 (h_xd_r hx1 f2) hmd2))
  have hk0 : k = 0 := (o_eq ⟨by omega, by omega⟩ o_R0).mp c9
  refine oz_aload_n dL_law_2326 rfl ?_
  refine oz_iconst dL_law_2327 ?_
  refine oz_lald (f := fun j => Int64.ofInt (g2 201 j)) (len := 1) dL_law_2328 (by decide) rfl (by decide) (by decide) (by decide) ?_
  refine oz_iload dL_law_2329 rfl ?_
  refine oz_i2l dL_law_2331 ?_
  refine oz_lcmpS (h_eqL f2 (hv1 hk0) (hv hk0)) dL_law_2332 ?_
  refine oz_ifx_eq (tgt := 2338) dL_law_2333 (by decide) (fun _ => ?_) (fun q => absurd rfl q)
  refine oz_goto (tgt := 2455) dL_law_2338 (by decide) ?_
  exact oz_loc [(0, .ref 5000000), (1, .ref 0), (2, .ref 192), (3, .ref 201), (4, .ref 202), (5, .int (o_I ((4 * n : Nat) : Int)))] rfl (oz_mono (by omega) (by omega) (K g2 (h_xd_r hx1 f2) hmd2))
set_option maxRecDepth 100000 in
set_option maxHeartbeats 4000000 in
theorem lc_48 {l : Launch} {Z : o_Z} {post : o_P} {mc ms n d1 d2 mc1 ms1 : Nat} {al1 : Nat → Prop} (hmc : 57 ≤ mc) (hms : 12540 ≤ ms) (h1 : d1 < 16) (h2 : d2 < 16) (hm9 : mc1 ≤ 57) (hs9 : ms1 ≤ 12540) (hal : ∀ k, al1 k → k < 1000000) (hfr : (∀ k, ¬ al1 k) ∨ ((∀ q ∈ ([(0, .ref 5000000), (1, .ref 0), (2, .ref 192), (3, .ref 201), (4, .ref 202), (5, .int (o_I ((4 * n : Nat) : Int)))] : List (Nat × Value)), ∀ k, q.2 = .ref k → ¬ al1 k) ∧ ∀ v ∈ ([] : List Value), ∀ k, v = .ref k → ¬ al1 k)) {g M M' T T' : Nat → Nat → Int} {P P' : List (Nat → Nat → Int)} {S S' : Option (Nat → Nat → Int)} (hmd : o_md g M P S T) (v : Int)
    (C1 : o_Ct l yX11_undoCount wX11_undoCount d1 al1 [.ref 0] o_N (o_mem g) mc1 ms1 (x_x [] 0 (.int (o_I v)) M' P' S' T' g)) (C2 : ∀ g1, o_md g1 M P S T → o_Ct l yX12_undoCount wX12_undoCount d2 o_no [.ref 192] o_N (o_mem g1) 0 0 (r_y 0 (.int (o_I v)) M' P' S' T' g1))
    (K : ∀ g', o_xd g' M' P' S' T' → o_md g' M' P' S' T' → o_Vz Z l mL_law 16 w_al post 2455 (w_ls n) [] o_N (o_mem g') (mc - 57) (ms - 12540)) : o_Vz Z l mL_law 16 w_al post 2341 (w_ls n) [] o_N (o_mem g) mc ms := by
  refine oz_loc [(0, .ref 5000000), (1, .ref 0), (2, .ref 192), (3, .ref 201), (4, .ref 202), (5, .int (o_I ((4 * n : Nat) : Int)))] rfl ?_
  refine oz_aload_n dL_law_2341 rfl ?_
  refine oz_callV [] (rest := []) C1 dL_law_2342 ml_L_313 yw_X11_undoCount rfl (by decide) h1 (Nat.le_trans hm9 hmc) (Nat.le_trans hs9 hms) (by decide) rfl rfl rfl (Nat.le_of_ble_eq_true rfl) hal (fun k q => hal k q) hfr (fun v9 n9 h9 q9 => ?_) (fun E n9 h9 q9 => by obtain ⟨-, -, q⟩ := q9; rcases q with ⟨-, q⟩ | ⟨E, q, -⟩; cases q; exact absurd rfl q)
  obtain ⟨rfl, ⟨g1, rfl, hx1, f1⟩, q⟩ := q9
  obtain ⟨-, q⟩ := q.resolve_right (fun z => by obtain ⟨E, z, -⟩ := z; exact absurd rfl z)
  cases q
  refine oz_aload_n dL_law_2345 rfl ?_
  refine oz_cVm [] (C2 g1 (h_md_c hmd (h_x9 f1))) dL_law_2346 ml_L_316 yw_X12_undoCount rfl (by decide) h2 (by decide) rfl rfl rfl (Nat.le_of_ble_eq_true rfl) (fun g2 q2 => ?_)
  obtain ⟨-, hmd2, f2⟩ := q2
  refine oz_icmpS (tgt := 2455) dL_law_2349 (by decide) ?_
  exact oz_loc [(0, .ref 5000000), (1, .ref 0), (2, .ref 192), (3, .ref 201), (4, .ref 202), (5, .int (o_I ((4 * n : Nat) : Int)))] rfl (oz_mono (by omega) (by omega) (K g2 (h_xd_r hx1 f2) hmd2))
set_option maxRecDepth 100000 in
set_option maxHeartbeats 4000000 in
theorem lc_49 {l : Launch} (hl : l.stackTraces = false) {Z : o_Z} {post : o_P} {mc ms n d1 d2 : Nat} (hL : Z.2.2.2.1 ≤ 2048) (hn : 4 * n + 4 ≤ Z.2.2.2.1) (hmc : 57 ≤ mc) (hms : 12540 ≤ ms) (h1 : d1 < 16) (h2 : d2 < 16) {g M M' T T' : Nat → Nat → Int} {P P' : List (Nat → Nat → Int)} {S S' : Option (Nat → Nat → Int)} (hmd : o_md g M P S T) (k : Int) (hk : 0 ≤ k ∧ k ≤ 4) (v v2 : Int) (hv : k = 0 → v2 = v)
    (C1 : o_Ct l yL_undo wL_undo d1 o_no [.ref 0, .ref 201] o_N (o_mem g) 1 6 (h_x k 201 ((o_I v).toInt) M' P' S' T' g)) (C2 : ∀ g1, o_md g1 M P S T → o_Ct l yX12_undo wX12_undo d2 o_no [.ref 192] o_N (o_mem g1) 0 0 (r_y k (.int (o_I v2)) M' P' S' T' g1))
    (K : ∀ g', o_xd g' M' P' S' T' → o_md g' M' P' S' T' → o_Vz Z l mL_law 16 w_al post 2455 (w_ls n) [] o_N (o_mem g') (mc - 57) (ms - 12540)) : o_Vz Z l mL_law 16 w_al post 2354 (w_ls n) [] o_N (o_mem g) mc ms := by
  obtain ⟨hk1, hk2⟩ := hk
  refine oz_loc [(0, .ref 5000000), (1, .ref 0), (2, .ref 192), (3, .ref 201), (4, .ref 202), (5, .int (o_I ((4 * n : Nat) : Int)))] rfl ?_
  refine oz_aload_n dL_law_2354 rfl ?_
  refine oz_aload_n dL_law_2355 rfl ?_
  refine oz_callSW [.ref 0, .ref 201] (rest := []) C1 (fun E n9 h9 q => by obtain ⟨q1, -⟩ := q; cases q1) dL_law_2356 ml_L_317 ys_L_undo rfl (by decide) h1 (by omega) (by omega) rfl (Nat.le_of_ble_eq_true rfl) (fun _ z => z.elim) (fun _ z => z.elim) (Or.inl fun _ z => z) (fun v9 n9 h9 q9 => ?_)
  obtain ⟨q1, rfl, g1, rfl, hx1, f1, hv1⟩ := q9
  cases q1
  refine oz_istore dL_law_2359 (by decide) ?_
  refine oz_aload_n dL_law_2361 rfl ?_
  refine oz_cVm [] (C2 g1 (h_md_c hmd f1)) dL_law_2362 ml_L_319 yw_X12_undo rfl (by decide) h2 (by decide) rfl rfl rfl (Nat.le_of_ble_eq_true rfl) (fun g2 q2 => ?_)
  obtain ⟨e7, hmd2, f2⟩ := q2
  refine oz_istore dL_law_2365 (by decide) ?_
  refine oz_aload_n dL_law_2367 rfl ?_
  refine oz_cVm [] (h_thrown hl 0 g2 k e7) dL_law_2368 ml_L_149 yw_X12_thrown rfl (by decide) (by decide) (by decide) rfl rfl rfl (Nat.le_of_ble_eq_true rfl) (fun g3 q3 => ?_)
  rw [q3]
  refine oz_iload dL_law_2371 rfl ?_
  refine oz_icmpS (tgt := 2378) dL_law_2373 (by decide) ?_
  refine oz_iload dL_law_2378 rfl ?_
  refine oz_ifx_ne (tgt := 2395) dL_law_2380 (by decide) (fun c9 => ?_) (fun c9 => ?_)
  · refine oz_goto (tgt := 2455) dL_law_2395 (by decide) ?_
    exact oz_loc [(0, .ref 5000000), (1, .ref 0), (2, .ref 192), (3, .ref 201), (4, .ref 202), (5, .int (o_I ((4 * n : Nat) : Int)))] rfl (oz_mono (by omega) (by omega) (K g2 (h_xd_r hx1 f2) hmd2))
  have hk0 : k = 0 := (o_eq ⟨by omega, by omega⟩ o_R0).mp c9
  refine oz_aload_n dL_law_2383 rfl ?_
  refine oz_iconst dL_law_2384 ?_
  refine oz_lald (f := fun j => Int64.ofInt (g2 201 j)) (len := 1) dL_law_2385 (by decide) rfl (by decide) (by decide) (by decide) ?_
  refine oz_iload dL_law_2386 rfl ?_
  refine oz_i2l dL_law_2388 ?_
  refine oz_lcmpS (h_eqL f2 (hv1 hk0) (hv hk0)) dL_law_2389 ?_
  refine oz_ifx_eq (tgt := 2395) dL_law_2390 (by decide) (fun _ => ?_) (fun q => absurd rfl q)
  refine oz_goto (tgt := 2455) dL_law_2395 (by decide) ?_
  exact oz_loc [(0, .ref 5000000), (1, .ref 0), (2, .ref 192), (3, .ref 201), (4, .ref 202), (5, .int (o_I ((4 * n : Nat) : Int)))] rfl (oz_mono (by omega) (by omega) (K g2 (h_xd_r hx1 f2) hmd2))
set_option maxRecDepth 100000 in
set_option maxHeartbeats 4000000 in
theorem lc_50 {l : Launch} {Z : o_Z} {post : o_P} {mc ms n d1 d2 mc1 ms1 : Nat} {al1 : Nat → Prop} (hmc : 57 ≤ mc) (hms : 12540 ≤ ms) (h1 : d1 < 16) (h2 : d2 < 16) (hm9 : mc1 ≤ 57) (hs9 : ms1 ≤ 12540) (hal : ∀ k, al1 k → k < 1000000) (hfr : (∀ k, ¬ al1 k) ∨ ((∀ q ∈ ([(0, .ref 5000000), (1, .ref 0), (2, .ref 192), (3, .ref 201), (4, .ref 202), (5, .int (o_I ((4 * n : Nat) : Int)))] : List (Nat × Value)), ∀ k, q.2 = .ref k → ¬ al1 k) ∧ ∀ v ∈ ([] : List Value), ∀ k, v = .ref k → ¬ al1 k)) {g M M' T T' : Nat → Nat → Int} {P P' : List (Nat → Nat → Int)} {S S' : Option (Nat → Nat → Int)} (hmd : o_md g M P S T) (v : Int)
    (C1 : o_Ct l yX11_save wX11_save d1 al1 [.ref 0] o_N (o_mem g) mc1 ms1 (x_x [] 0 (.int (o_I v)) M' P' S' T' g)) (C2 : ∀ g1, o_md g1 M P S T → o_Ct l yX12_save wX12_save d2 o_no [.ref 192] o_N (o_mem g1) 0 0 (r_y 0 (.int (o_I v)) M' P' S' T' g1))
    (K : ∀ g', o_xd g' M' P' S' T' → o_md g' M' P' S' T' → o_Vz Z l mL_law 16 w_al post 2455 (w_ls n) [] o_N (o_mem g') (mc - 57) (ms - 12540)) : o_Vz Z l mL_law 16 w_al post 2398 (w_ls n) [] o_N (o_mem g) mc ms := by
  refine oz_loc [(0, .ref 5000000), (1, .ref 0), (2, .ref 192), (3, .ref 201), (4, .ref 202), (5, .int (o_I ((4 * n : Nat) : Int)))] rfl ?_
  refine oz_aload_n dL_law_2398 rfl ?_
  refine oz_callV [] (rest := []) C1 dL_law_2399 ml_L_320 yw_X11_save rfl (by decide) h1 (Nat.le_trans hm9 hmc) (Nat.le_trans hs9 hms) (by decide) rfl rfl rfl (Nat.le_of_ble_eq_true rfl) hal (fun k q => hal k q) hfr (fun v9 n9 h9 q9 => ?_) (fun E n9 h9 q9 => by obtain ⟨-, -, q⟩ := q9; rcases q with ⟨-, q⟩ | ⟨E, q, -⟩; cases q; exact absurd rfl q)
  obtain ⟨rfl, ⟨g1, rfl, hx1, f1⟩, q⟩ := q9
  obtain ⟨-, q⟩ := q.resolve_right (fun z => by obtain ⟨E, z, -⟩ := z; exact absurd rfl z)
  cases q
  refine oz_aload_n dL_law_2402 rfl ?_
  refine oz_cVm [] (C2 g1 (h_md_c hmd (h_x9 f1))) dL_law_2403 ml_L_323 yw_X12_save rfl (by decide) h2 (by decide) rfl rfl rfl (Nat.le_of_ble_eq_true rfl) (fun g2 q2 => ?_)
  obtain ⟨-, hmd2, f2⟩ := q2
  refine oz_icmpS (tgt := 2455) dL_law_2406 (by decide) ?_
  exact oz_loc [(0, .ref 5000000), (1, .ref 0), (2, .ref 192), (3, .ref 201), (4, .ref 202), (5, .int (o_I ((4 * n : Nat) : Int)))] rfl (oz_mono (by omega) (by omega) (K g2 (h_xd_r hx1 f2) hmd2))
set_option maxRecDepth 100000 in
set_option maxHeartbeats 4000000 in
theorem lc_51 {l : Launch} (hl : l.stackTraces = false) {Z : o_Z} {post : o_P} {mc ms n d1 d2 : Nat} (hL : Z.2.2.2.1 ≤ 2048) (hn : 4 * n + 4 ≤ Z.2.2.2.1) (hmc : 57 ≤ mc) (hms : 12540 ≤ ms) (h1 : d1 < 16) (h2 : d2 < 16) {g M M' T T' : Nat → Nat → Int} {P P' : List (Nat → Nat → Int)} {S S' : Option (Nat → Nat → Int)} (hmd : o_md g M P S T) (k : Int) (hk : 0 ≤ k ∧ k ≤ 4) (v v2 : Int) (hv : k = 0 → v2 = v)
    (C1 : o_Ct l yL_restore wL_restore d1 o_no [.ref 0, .ref 201] o_N (o_mem g) 1 6 (h_x k 201 ((o_I v).toInt) M' P' S' T' g)) (C2 : ∀ g1, o_md g1 M P S T → o_Ct l yX12_restore wX12_restore d2 o_no [.ref 192] o_N (o_mem g1) 0 0 (r_y k (.int (o_I v2)) M' P' S' T' g1))
    (K : ∀ g', o_xd g' M' P' S' T' → o_md g' M' P' S' T' → o_Vz Z l mL_law 16 w_al post 2455 (w_ls n) [] o_N (o_mem g') (mc - 57) (ms - 12540)) : o_Vz Z l mL_law 16 w_al post 2411 (w_ls n) [] o_N (o_mem g) mc ms := by
  obtain ⟨hk1, hk2⟩ := hk
  refine oz_loc [(0, .ref 5000000), (1, .ref 0), (2, .ref 192), (3, .ref 201), (4, .ref 202), (5, .int (o_I ((4 * n : Nat) : Int)))] rfl ?_
  refine oz_aload_n dL_law_2411 rfl ?_
  refine oz_aload_n dL_law_2412 rfl ?_
  refine oz_callSW [.ref 0, .ref 201] (rest := []) C1 (fun E n9 h9 q => by obtain ⟨q1, -⟩ := q; cases q1) dL_law_2413 ml_L_324 ys_L_restore rfl (by decide) h1 (by omega) (by omega) rfl (Nat.le_of_ble_eq_true rfl) (fun _ z => z.elim) (fun _ z => z.elim) (Or.inl fun _ z => z) (fun v9 n9 h9 q9 => ?_)
  obtain ⟨q1, rfl, g1, rfl, hx1, f1, hv1⟩ := q9
  cases q1
  refine oz_istore dL_law_2416 (by decide) ?_
  refine oz_aload_n dL_law_2418 rfl ?_
  refine oz_cVm [] (C2 g1 (h_md_c hmd f1)) dL_law_2419 ml_L_326 yw_X12_restore rfl (by decide) h2 (by decide) rfl rfl rfl (Nat.le_of_ble_eq_true rfl) (fun g2 q2 => ?_)
  obtain ⟨e7, hmd2, f2⟩ := q2
  refine oz_istore dL_law_2422 (by decide) ?_
  refine oz_aload_n dL_law_2424 rfl ?_
  refine oz_cVm [] (h_thrown hl 0 g2 k e7) dL_law_2425 ml_L_149 yw_X12_thrown rfl (by decide) (by decide) (by decide) rfl rfl rfl (Nat.le_of_ble_eq_true rfl) (fun g3 q3 => ?_)
  rw [q3]
  refine oz_iload dL_law_2428 rfl ?_
  refine oz_icmpS (tgt := 2435) dL_law_2430 (by decide) ?_
  refine oz_iload dL_law_2435 rfl ?_
  refine oz_ifx_ne (tgt := 2452) dL_law_2437 (by decide) (fun c9 => ?_) (fun c9 => ?_)
  · refine oz_goto (tgt := 2455) dL_law_2452 (by decide) ?_
    exact oz_loc [(0, .ref 5000000), (1, .ref 0), (2, .ref 192), (3, .ref 201), (4, .ref 202), (5, .int (o_I ((4 * n : Nat) : Int)))] rfl (oz_mono (by omega) (by omega) (K g2 (h_xd_r hx1 f2) hmd2))
  have hk0 : k = 0 := (o_eq ⟨by omega, by omega⟩ o_R0).mp c9
  refine oz_aload_n dL_law_2440 rfl ?_
  refine oz_iconst dL_law_2441 ?_
  refine oz_lald (f := fun j => Int64.ofInt (g2 201 j)) (len := 1) dL_law_2442 (by decide) rfl (by decide) (by decide) (by decide) ?_
  refine oz_iload dL_law_2443 rfl ?_
  refine oz_i2l dL_law_2445 ?_
  refine oz_lcmpS (h_eqL f2 (hv1 hk0) (hv hk0)) dL_law_2446 ?_
  refine oz_ifx_eq (tgt := 2452) dL_law_2447 (by decide) (fun _ => ?_) (fun q => absurd rfl q)
  refine oz_goto (tgt := 2455) dL_law_2452 (by decide) ?_
  exact oz_loc [(0, .ref 5000000), (1, .ref 0), (2, .ref 192), (3, .ref 201), (4, .ref 202), (5, .int (o_I ((4 * n : Nat) : Int)))] rfl (oz_mono (by omega) (by omega) (K g2 (h_xd_r hx1 f2) hmd2))
