/-! the law's ships -/
set_option maxRecDepth 100000 in
set_option maxHeartbeats 4000000 in
/-- ships -/
theorem ct_L_ships {l : Launch} (hl : l.stackTraces = false) (d : Nat) (g M : Nat → Nat → Int) (P : List (Nat → Nat → Int)) (S : Option (Nat → Nat → Int)) (T : Nat → Nat → Int) (hx : o_xd g M P S T) (hwf : o_wf M) (hs1 : 1 ≤ M 0 0) : o_Ct l yL_ships wL_ships (d + 10) o_no [.ref 0] o_N (o_mem g) 200 1200 (y_x (.int (o_I 1)) M P S T) := by
  refine o_Ct.ofV hl mL_ships (by decide +kernel) rfl rfl rfl (Nat.le_of_ble_eq_true rfl) ?_
  obtain ⟨⟨hws, hwl, hwq, hwo, hwle, hwrq, hwrd⟩, hwh, hwc, hwe⟩ := id hwf
  obtain ⟨b0, b1, bs⟩ := id hws
  obtain ⟨b2, b3, b4, b5, bl⟩ := id hwl
  obtain ⟨b6, b7, bq⟩ := id hwq
  obtain ⟨b8, b9⟩ := id hwo
  have hwk := hwf.1
  have da := d_all_R hwl
  refine o_aload_n dL_ships_0 rfl ?_
  refine y_v _ (cv_shipCount hl d g M P S T hx hwf) dL_ships_1 ml_L_195 yw_X11_shipCount rfl (by decide) (by omega) (by omega) (by omega) (by decide) rfl rfl rfl (Nat.le_of_ble_eq_true rfl) (fun g hx => ?_)
  refine o_istore_n dL_ships_4 (by decide) ?_
  refine o_aload_n dL_ships_5 rfl ?_
  refine y_v _ (cv_consumption hl d g M P S T hx hwf) dL_ships_6 ml_L_198 yw_X11_consumption rfl (by decide) (by omega) (by omega) (by omega) (by decide) rfl rfl rfl (Nat.le_of_ble_eq_true rfl) (fun g hx => ?_)
  refine o_istore_n dL_ships_9 (by decide) ?_
  refine o_iconst dL_ships_10 ?_
  refine o_istore_n dL_ships_11 (by decide) ?_
  refine o_iconst dL_ships_12 ?_
  refine o_istore dL_ships_13 (by decide) ?_
  refine o_iconst dL_ships_15 ?_
  refine o_istore dL_ships_16 (by decide) ?_
  refine o_iconst dL_ships_18 ?_
  refine o_istore dL_ships_19 (by decide) ?_
  have key_21 := o_lp (fun s => ∀ (a : Int), (a = o_sm (fun i => M 1 i) s) → ∀ (b : Int), (b = o_sm (fun i => d_sh M i) s) → ∀ (c : Int), (c = o_sm (fun i => d_of M (i : Int)) s) → ∀ g mc ms, o_xd g M P S T → 30 * ((M 0 0).toNat - s) + 20 ≤ mc → 6 * (30 * ((M 0 0).toNat - s) + 20) ≤ ms → o_V l mL_ships (d + 10) o_no (y_x (.int (o_I 1)) M P S T) 21 [(0, .ref 0), (1, .int (o_I (M 0 0))), (2, .int (o_I (d_all M))), (3, .int (o_I (a))), (4, .int (o_I (b))), (5, .int (o_I (c))), (6, .int (o_I ((s : Int))))] [] o_N (o_mem g) mc ms) (M 0 0).toNat (fun s hs ih_21 a ha b hb c hc g mc ms hx h1 h2 => by
    refine o_iload dL_ships_21 rfl ?_
    refine o_iload_n dL_ships_23 rfl ?_
    refine o_icmp_ge (tgt := 341) dL_ships_24 (by decide) ⟨by omega, by omega⟩ ⟨by omega, by omega⟩ (fun c_24 => ?_) (fun c_24 => ?_)
    · skip
      have s9 : s = (M 0 0).toNat := by omega
      have a9 : a = o_sm (fun i => M 1 i) (M 0 0).toNat := by rw [ha, s9]
      have b9 : (0 < d_all M ∧ b = M 0 2) ∨ (d_all M = 0 ∧ b = 0) := by
        have z : b = if 0 < d_all M then M 0 2 else 0 := by rw [hb, s9]; exact d_sh_sm hwk
        by_cases y : 0 < d_all M
        · rw [if_pos y] at z; exact Or.inl ⟨y, z⟩
        · rw [if_neg y] at z; exact Or.inr ⟨by omega, z⟩
      have c9 : c = d_all M := by rw [hc, s9]; exact d_of_sm hwk
      have fm := f_mean_ok hwk (by omega)
      have J_384 : ∀ g mc ms, o_xd g M P S T → 15 ≤ mc → 6 * (15) ≤ ms → o_V l mL_ships (d + 10) o_no (y_x (.int (o_I 1)) M P S T) 384 [(0, .ref 0), (1, .int (o_I (M 0 0))), (3, .int (o_I (a))), (6, .int (o_I (1)))] [] o_N (o_mem g) mc ms := (fun g mc ms hx h1 h2 => by
        rw [a9]
        refine o_iload dL_ships_384 rfl ?_
        refine o_if_eq (tgt := 496) dL_ships_386 (by decide) ⟨by omega, by omega⟩ (fun c_386 => absurd c_386 (by omega)) (fun c_386 => ?_)
        refine o_aload_n dL_ships_389 rfl ?_
        refine y_v _ (cv_meanCoins hl d g M P S T hx hwf (by omega)) dL_ships_390 ml_L_224 yw_X11_meanCoins rfl (by decide) (by omega) (by omega) (by omega) (by decide) rfl rfl rfl (Nat.le_of_ble_eq_true rfl) (fun g hx => ?_)
        refine o_iload_n dL_ships_393 rfl ?_
        refine o_i2d dL_ships_394 ?_
        refine o_iload_n dL_ships_395 rfl ?_
        refine o_i2d dL_ships_396 ?_
        refine o_ddiv dL_ships_397 (f_mean_ok hwf.1 (by omega)).1 ?_
        refine o_dcmp dL_ships_398 ?_
        rw [dc_self (x := f_mean M) (y := FP.ddiv (FP.i2d (o_I (o_sm (fun i => M 1 i) (M 0 0).toNat))) (FP.i2d (o_I (M 0 0)))) (f_mean_ok hwf.1 (by omega)).2.1 rfl]
        refine o_if_ne (tgt := 496) dL_ships_399 (by decide) ⟨by omega, by omega⟩ (fun c_399 => absurd (by omega) c_399) (fun c_399 => ?_)
        refine o_aload_n dL_ships_402 rfl ?_
        refine o_iload_n dL_ships_403 rfl ?_
        refine y_q _ (cx_byFines hl d g M P S T hx hwf (M 0 0) ⟨by omega, by omega⟩ (by omega)) dL_ships_404 ml_L_208 ys_L_byFines rfl (by decide) (by omega) (by omega) (by omega) rfl (Nat.le_of_ble_eq_true rfl) (fun g hx => ?_)
        refine o_bipush dL_ships_407 (by decide) ?_
        refine o_icmp_ne (tgt := 496) dL_ships_409 (by decide) ⟨by omega, by omega⟩ ⟨by omega, by omega⟩ (fun c_409 => absurd (by omega) c_409) (fun c_409 => ?_)
        refine o_aload_n dL_ships_412 rfl ?_
        refine o_iconst dL_ships_413 ?_
        refine y_q _ (cx_byFines hl d g M P S T hx hwf (-1) ⟨by omega, by omega⟩ (by omega)) dL_ships_414 ml_L_208 ys_L_byFines rfl (by decide) (by omega) (by omega) (by omega) rfl (Nat.le_of_ble_eq_true rfl) (fun g hx => ?_)
        refine o_bipush dL_ships_417 (by decide) ?_
        refine o_icmp_ne (tgt := 496) dL_ships_419 (by decide) ⟨by omega, by omega⟩ ⟨by omega, by omega⟩ (fun c_419 => absurd (by omega) c_419) (fun c_419 => ?_)
        refine o_aload_n dL_ships_422 rfl ?_
        refine o_iload_n dL_ships_423 rfl ?_
        refine y_q _ (cx_coins hl d g M P S T hx hwf (M 0 0) ⟨by omega, by omega⟩ (by omega)) dL_ships_424 ml_L_214 ys_L_coins rfl (by decide) (by omega) (by omega) (by omega) rfl (Nat.le_of_ble_eq_true rfl) (fun g hx => ?_)
        refine o_bipush dL_ships_427 (by decide) ?_
        refine o_icmp_ne (tgt := 496) dL_ships_429 (by decide) ⟨by omega, by omega⟩ ⟨by omega, by omega⟩ (fun c_429 => absurd (by omega) c_429) (fun c_429 => ?_)
        refine o_aload_n dL_ships_432 rfl ?_
        refine o_iload_n dL_ships_433 rfl ?_
        refine y_q _ (cx_fines hl d g M P S T hx hwf (M 0 0) ⟨by omega, by omega⟩ (by omega)) dL_ships_434 ml_L_211 ys_L_fines rfl (by decide) (by omega) (by omega) (by omega) rfl (Nat.le_of_ble_eq_true rfl) (fun g hx => ?_)
        refine o_bipush dL_ships_437 (by decide) ?_
        refine o_icmp_ne (tgt := 496) dL_ships_439 (by decide) ⟨by omega, by omega⟩ ⟨by omega, by omega⟩ (fun c_439 => absurd (by omega) c_439) (fun c_439 => ?_)
        refine o_aload_n dL_ships_442 rfl ?_
        refine o_iconst dL_ships_443 ?_
        refine y_q _ (cx_dark hl d g M P S T hx hwf (-1) ⟨by omega, by omega⟩ (by omega)) dL_ships_444 ml_L_228 ys_L_dark rfl (by decide) (by omega) (by omega) (by omega) rfl (Nat.le_of_ble_eq_true rfl) (fun g hx => ?_)
        refine o_bipush dL_ships_447 (by decide) ?_
        refine o_icmp_ne (tgt := 496) dL_ships_449 (by decide) ⟨by omega, by omega⟩ ⟨by omega, by omega⟩ (fun c_449 => absurd (by omega) c_449) (fun c_449 => ?_)
        refine o_aload_n dL_ships_452 rfl ?_
        refine o_iload_n dL_ships_453 rfl ?_
        refine y_q _ (cx_demand hl d g M P S T hx hwf (M 0 0) ⟨by omega, by omega⟩ (by omega)) dL_ships_454 ml_L_216 ys_L_demand rfl (by decide) (by omega) (by omega) (by omega) rfl (Nat.le_of_ble_eq_true rfl) (fun g hx => ?_)
        refine o_bipush dL_ships_457 (by decide) ?_
        refine o_icmp_ne (tgt := 496) dL_ships_459 (by decide) ⟨by omega, by omega⟩ ⟨by omega, by omega⟩ (fun c_459 => absurd (by omega) c_459) (fun c_459 => ?_)
        refine o_aload_n dL_ships_462 rfl ?_
        refine o_iload_n dL_ships_463 rfl ?_
        refine y_q _ (cx_leases hl d g M P S T hx hwf (M 0 0) ⟨by omega, by omega⟩ (by omega)) dL_ships_464 ml_L_218 ys_L_leases rfl (by decide) (by omega) (by omega) (by omega) rfl (Nat.le_of_ble_eq_true rfl) (fun g hx => ?_)
        refine o_bipush dL_ships_467 (by decide) ?_
        refine o_icmp_ne (tgt := 496) dL_ships_469 (by decide) ⟨by omega, by omega⟩ ⟨by omega, by omega⟩ (fun c_469 => absurd (by omega) c_469) (fun c_469 => ?_)
        refine o_aload_n dL_ships_472 rfl ?_
        refine o_iload_n dL_ships_473 rfl ?_
        refine y_q _ (cx_share hl d g M P S T hx hwf (M 0 0) ⟨by omega, by omega⟩ (by omega)) dL_ships_474 ml_L_203 ys_L_share rfl (by decide) (by omega) (by omega) (by omega) rfl (Nat.le_of_ble_eq_true rfl) (fun g hx => ?_)
        refine o_bipush dL_ships_477 (by decide) ?_
        refine o_icmp_ne (tgt := 496) dL_ships_479 (by decide) ⟨by omega, by omega⟩ ⟨by omega, by omega⟩ (fun c_479 => absurd (by omega) c_479) (fun c_479 => ?_)
        refine o_aload_n dL_ships_482 rfl ?_
        refine o_iconst dL_ships_483 ?_
        refine y_q _ (cx_byRank hl d g M P S T hx hwf (-1) ⟨by omega, by omega⟩ (by omega)) dL_ships_484 ml_L_205 ys_L_byRank rfl (by decide) (by omega) (by omega) (by omega) rfl (Nat.le_of_ble_eq_true rfl) (fun g hx => ?_)
        refine o_bipush dL_ships_487 (by decide) ?_
        refine o_icmp_ne (tgt := 496) dL_ships_489 (by decide) ⟨by omega, by omega⟩ ⟨by omega, by omega⟩ (fun c_489 => absurd (by omega) c_489) (fun c_489 => ?_)
        refine o_iconst dL_ships_492 ?_
        refine o_goto (tgt := 497) dL_ships_493 (by decide) ?_
        refine o_ret1 dL_ships_497 (by first | exact o_rb0 | exact o_rb1) ?_
        exact ⟨rfl, ⟨g, rfl, hx⟩, rfl⟩)
      refine o_iload_n dL_ships_341 rfl ?_
      refine o_aload_n dL_ships_342 rfl ?_
      refine y_v _ (cv_officeCoins hl d g M P S T hx hwf) dL_ships_343 ml_L_221 yw_X11_officeCoins rfl (by decide) (by omega) (by omega) (by omega) (by decide) rfl rfl rfl (Nat.le_of_ble_eq_true rfl) (fun g hx => ?_)
      refine o_iadd dL_ships_346 ?_
      refine o_bipush dL_ships_347 (by decide) ?_
      refine o_iload_n dL_ships_349 rfl ?_
      refine o_imul dL_ships_350 ?_
      refine o_icmp_ne (tgt := 381) dL_ships_351 (by decide) ⟨by omega, by omega⟩ ⟨by omega, by omega⟩ (fun c_351 => absurd (by omega) c_351) (fun c_351 => ?_)
      refine o_iload dL_ships_354 rfl ?_
      refine o_iload_n dL_ships_356 rfl ?_
      refine o_if_ne (tgt := 364) dL_ships_357 (by decide) ⟨by omega, by omega⟩ (fun c_357 => ?_) (fun c_357 => ?_)
      · skip
        refine o_aload_n dL_ships_364 rfl ?_
        refine y_v _ (cv_oil hl d g M P S T hx hwf) dL_ships_365 ml_L_168 yw_X11_oil rfl (by decide) (by omega) (by omega) (by omega) (by decide) rfl rfl rfl (Nat.le_of_ble_eq_true rfl) (fun g hx => ?_)
        refine o_icmp_ne (tgt := 381) dL_ships_368 (by decide) ⟨by omega, by omega⟩ ⟨by omega, by omega⟩ (fun c_368 => absurd (by omega) c_368) (fun c_368 => ?_)
        refine o_iload dL_ships_371 rfl ?_
        refine o_iload_n dL_ships_373 rfl ?_
        refine o_icmp_ne (tgt := 381) dL_ships_374 (by decide) ⟨by omega, by omega⟩ ⟨by omega, by omega⟩ (fun c_374 => absurd (by omega) c_374) (fun c_374 => ?_)
        refine o_iconst dL_ships_377 ?_
        refine o_goto (tgt := 382) dL_ships_378 (by decide) ?_
        refine o_istore dL_ships_382 (by decide) ?_
        exact o_loc [(0, .ref 0), (1, .int (o_I (M 0 0))), (3, .int (o_I (a))), (6, .int (o_I (1)))] rfl (J_384 g _ _ hx (by omega) (by omega))
      · skip
        refine o_iconst dL_ships_360 ?_
        refine o_goto (tgt := 368) dL_ships_361 (by decide) ?_
        refine o_icmp_ne (tgt := 381) dL_ships_368 (by decide) ⟨by omega, by omega⟩ ⟨by omega, by omega⟩ (fun c_368 => absurd (by omega) c_368) (fun c_368 => ?_)
        refine o_iload dL_ships_371 rfl ?_
        refine o_iload_n dL_ships_373 rfl ?_
        refine o_icmp_ne (tgt := 381) dL_ships_374 (by decide) ⟨by omega, by omega⟩ ⟨by omega, by omega⟩ (fun c_374 => absurd (by omega) c_374) (fun c_374 => ?_)
        refine o_iconst dL_ships_377 ?_
        refine o_goto (tgt := 382) dL_ships_378 (by decide) ?_
        refine o_istore dL_ships_382 (by decide) ?_
        exact o_loc [(0, .ref 0), (1, .int (o_I (M 0 0))), (3, .int (o_I (a))), (6, .int (o_I (1)))] rfl (J_384 g _ _ hx (by omega) (by omega))
    · skip
      refine o_iconst dL_ships_27 ?_
      refine o_istore dL_ships_28 (by decide) ?_
      refine o_iconst dL_ships_30 ?_
      refine o_istore dL_ships_31 (by decide) ?_
      refine o_iconst dL_ships_33 ?_
      refine o_istore dL_ships_34 (by decide) ?_
      have key_36 := o_lp (fun j => ∀ (e : Int), (e = o_sm (fun i => if M 5 i = (s : Int) + 1 then M 4 i else 0) j) → ∀ (f : Int), (f = o_sm (fun i => o_b (M 5 i = (s : Int) + 1)) j) → ∀ g mc ms, o_xd g M P S T → 2 * ((M 0 1).toNat - j) + (14 + (30 * ((M 0 0).toNat - (s + 1)) + 20)) ≤ mc → 6 * (2 * ((M 0 1).toNat - j) + (14 + (30 * ((M 0 0).toNat - (s + 1)) + 20))) ≤ ms → o_V l mL_ships (d + 10) o_no (y_x (.int (o_I 1)) M P S T) 36 [(0, .ref 0), (1, .int (o_I (M 0 0))), (2, .int (o_I (d_all M))), (3, .int (o_I (a))), (4, .int (o_I (b))), (5, .int (o_I (c))), (6, .int (o_I ((s : Int)))), (7, .int (o_I (e))), (8, .int (o_I (f))), (9, .int (o_I ((j : Int))))] [] o_N (o_mem g) mc ms) (M 0 1).toNat (fun j hj ih_36 e he f hf g mc ms hx h1 h2 => by
        refine o_iload dL_ships_36 rfl ?_
        refine o_aload_n dL_ships_38 rfl ?_
        refine y_v _ (cv_lampCount hl d g M P S T hx hwf) dL_ships_39 ml_L_171 yw_X11_lampCount rfl (by decide) (by omega) (by omega) (by omega) (by decide) rfl rfl rfl (Nat.le_of_ble_eq_true rfl) (fun g hx => ?_)
        refine o_icmp_ge (tgt := 104) dL_ships_42 (by decide) ⟨by omega, by omega⟩ ⟨by omega, by omega⟩ (fun c_42 => ?_) (fun c_42 => ?_)
        · skip
          have e9 : e = d_of M (s : Int) := by rw [he, show j = (M 0 1).toNat by omega]; rfl
          have f9 : f = m_cnt M (s : Int) := by rw [hf, show j = (M 0 1).toNat by omega]; rfl
          have e8 := d_of_R hwl (s : Int)
          have f8 := o_sm_b (fun i => M 5 i = (s : Int) + 1) (M 0 1).toNat
          have f7 : 0 ≤ m_cnt M (s : Int) ∧ m_cnt M (s : Int) ≤ 8 := by have z : m_cnt M (s : Int) = o_sm (fun i => o_b (M 5 i = (s : Int) + 1)) (M 0 1).toNat := rfl; omega
          have q1 := d_q_R hwk s
          have q2 := d_sh_R hwk s
          have q3 := n_fits M s
          have o1 : 0 ≤ M 0 2 * e ∧ M 0 2 * e ≤ 12000 := by rw [e9]; exact n_od hwk (s : Int)
          have x9 := bs s (by omega)
          have J_312 : ∀ g mc ms, o_xd g M P S T → 1 + (30 * ((M 0 0).toNat - (s + 1)) + 20) ≤ mc → 6 * (1 + (30 * ((M 0 0).toNat - (s + 1)) + 20)) ≤ ms → o_V l mL_ships (d + 10) o_no (y_x (.int (o_I 1)) M P S T) 312 [(0, .ref 0), (1, .int (o_I (M 0 0))), (2, .int (o_I (d_all M))), (3, .int (o_I (a))), (4, .int (o_I (b))), (5, .int (o_I (c))), (6, .int (o_I ((s : Int)))), (7, .int (o_I (e))), (9, .int (o_I (d_sh M s)))] [] o_N (o_mem g) mc ms := (fun g mc ms hx h1 h2 => by
            refine o_iload_n dL_ships_312 rfl ?_
            refine o_aload_n dL_ships_313 rfl ?_
            refine o_iload dL_ships_314 rfl ?_
            refine y_q _ (cl_coins hl d g M P S T hx hwf s (by omega)) dL_ships_316 ml_L_214 ys_L_coins rfl (by decide) (by omega) (by omega) (by omega) rfl (Nat.le_of_ble_eq_true rfl) (fun g hx => ?_)
            refine o_iadd dL_ships_319 ?_
            refine o_istore_n dL_ships_320 (by decide) ?_
            refine o_iload dL_ships_321 rfl ?_
            refine o_iload dL_ships_323 rfl ?_
            refine o_iadd dL_ships_325 ?_
            refine o_istore dL_ships_326 (by decide) ?_
            refine o_iload dL_ships_328 rfl ?_
            refine o_iload dL_ships_330 rfl ?_
            refine o_iadd dL_ships_332 ?_
            refine o_istore dL_ships_333 (by decide) ?_
            refine o_iinc dL_ships_335 rfl (by decide) ?_
            refine o_goto (tgt := 21) dL_ships_338 (by decide) ?_
            exact o_loc [(0, .ref 0), (1, .int (o_I (M 0 0))), (2, .int (o_I (d_all M))), (3, .int (o_I ((a) + (M 1 s)))), (4, .int (o_I ((b) + (d_sh M s)))), (5, .int (o_I ((c) + (e)))), (6, .int (o_I (((s + 1 : Nat) : Int))))] rfl (ih_21 (by omega) ((a) + (M 1 s)) (by simp only [o_sm]; omega) ((b) + (d_sh M s)) (by simp only [o_sm]; omega) ((c) + (e)) (by simp only [o_sm]; omega) g _ _ hx (by omega) (by omega)))
          have J_204 : ∀ (p : Int), ((s = 0 ∧ p = -1) ∨ ∃ r : Nat, p = (r : Int) ∧ (r : Int) < M 0 0 ∧ o_rkS M r = (s : Int) - 1) → ∀ g mc ms, o_xd g M P S T → 11 + (30 * ((M 0 0).toNat - (s + 1)) + 20) ≤ mc → 6 * (11 + (30 * ((M 0 0).toNat - (s + 1)) + 20)) ≤ ms → o_V l mL_ships (d + 10) o_no (y_x (.int (o_I 1)) M P S T) 204 [(0, .ref 0), (1, .int (o_I (M 0 0))), (2, .int (o_I (d_all M))), (3, .int (o_I (a))), (4, .int (o_I (b))), (5, .int (o_I (c))), (6, .int (o_I ((s : Int)))), (7, .int (o_I (e))), (8, .int (o_I (f))), (9, .int (o_I (d_sh M s))), (11, .int (o_I (1))), (12, .int (o_I (p)))] [] o_N (o_mem g) mc ms := (fun p hp g mc ms hx h1 h2 => by
            obtain ⟨i9, hi1, hi2⟩ := n_sx (M := M) (k := s) (by omega)
            have x1 := bs i9 hi1
            have p9 : -1 ≤ p ∧ p < 6 := by rcases hp with z | ⟨r, z1, z2, -⟩ <;> omega
            refine o_aload_n dL_ships_204 rfl ?_
            refine o_iload dL_ships_205 rfl ?_
            refine y_q _ (cl_byFines hl d g M P S T hx hwf s i9 hi1 hi2 (by omega)) dL_ships_207 ml_L_208 ys_L_byFines rfl (by decide) (by omega) (by omega) (by omega) rfl (Nat.le_of_ble_eq_true rfl) (fun g hx => ?_)
            refine o_istore dL_ships_210 (by decide) ?_
            refine o_iload dL_ships_212 rfl ?_
            refine o_if_ge (tgt := 221) dL_ships_214 (by decide) ⟨by omega, by omega⟩ (fun c_214 => ?_) (fun c_214 => ?_)
            · skip
              obtain ⟨r, rfl, hr1, hr2⟩ := hp.resolve_left (fun z => by omega)
              have x2 := bs r hr1
              have ah : M 2 i9 < M 2 r ∨ (M 2 i9 = M 2 r ∧ (M 1 r < M 1 i9 ∨ (M 1 r = M 1 i9 ∧ r < i9))) := n_sah hi1 (by omega)
              refine o_aload_n dL_ships_221 rfl ?_
              refine o_iload dL_ships_222 rfl ?_
              refine y_q _ (cl_fines hl d g M P S T hx hwf r (by omega)) dL_ships_224 ml_L_211 ys_L_fines rfl (by decide) (by omega) (by omega) (by omega) rfl (Nat.le_of_ble_eq_true rfl) (fun g hx => ?_)
              refine o_aload_n dL_ships_227 rfl ?_
              refine o_iload dL_ships_228 rfl ?_
              refine y_q _ (cl_fines hl d g M P S T hx hwf i9 (by omega)) dL_ships_230 ml_L_211 ys_L_fines rfl (by decide) (by omega) (by omega) (by omega) rfl (Nat.le_of_ble_eq_true rfl) (fun g hx => ?_)
              refine o_isub dL_ships_233 ?_
              refine o_istore dL_ships_234 (by decide) ?_
              refine o_iload dL_ships_236 rfl ?_
              refine o_if_eq (tgt := 246) dL_ships_238 (by decide) ⟨by omega, by omega⟩ (fun c_238 => ?_) (fun c_238 => ?_)
              · skip
                refine o_aload_n dL_ships_246 rfl ?_
                refine o_iload dL_ships_247 rfl ?_
                refine y_q _ (cl_coins hl d g M P S T hx hwf i9 (by omega)) dL_ships_249 ml_L_214 ys_L_coins rfl (by decide) (by omega) (by omega) (by omega) rfl (Nat.le_of_ble_eq_true rfl) (fun g hx => ?_)
                refine o_aload_n dL_ships_252 rfl ?_
                refine o_iload dL_ships_253 rfl ?_
                refine y_q _ (cl_coins hl d g M P S T hx hwf r (by omega)) dL_ships_255 ml_L_214 ys_L_coins rfl (by decide) (by omega) (by omega) (by omega) rfl (Nat.le_of_ble_eq_true rfl) (fun g hx => ?_)
                refine o_isub dL_ships_258 ?_
                refine o_istore dL_ships_259 (by decide) ?_
                refine o_iload dL_ships_261 rfl ?_
                refine o_if_eq (tgt := 310) dL_ships_263 (by decide) ⟨by omega, by omega⟩ (fun c_263 => absurd c_263 (by omega)) (fun c_263 => ?_)
                refine o_aload_n dL_ships_266 rfl ?_
                refine o_iload dL_ships_267 rfl ?_
                refine y_q _ (cl_demand hl d g M P S T hx hwf s (by omega)) dL_ships_269 ml_L_216 ys_L_demand rfl (by decide) (by omega) (by omega) (by omega) rfl (Nat.le_of_ble_eq_true rfl) (fun g hx => ?_)
                refine o_iload dL_ships_272 rfl ?_
                refine o_icmp_ne (tgt := 310) dL_ships_274 (by decide) ⟨by omega, by omega⟩ ⟨by omega, by omega⟩ (fun c_274 => absurd (by omega) c_274) (fun c_274 => ?_)
                refine o_aload_n dL_ships_277 rfl ?_
                refine o_iload dL_ships_278 rfl ?_
                refine y_q _ (cl_leases hl d g M P S T hx hwf s (by omega)) dL_ships_280 ml_L_218 ys_L_leases rfl (by decide) (by omega) (by omega) (by omega) rfl (Nat.le_of_ble_eq_true rfl) (fun g hx => ?_)
                refine o_iload dL_ships_283 rfl ?_
                refine o_icmp_ne (tgt := 310) dL_ships_285 (by decide) ⟨by omega, by omega⟩ ⟨by omega, by omega⟩ (fun c_285 => absurd (by omega) c_285) (fun c_285 => ?_)
                refine o_iload dL_ships_288 rfl ?_
                refine o_if_lt (tgt := 310) dL_ships_290 (by decide) ⟨by omega, by omega⟩ (fun c_290 => absurd c_290 (by omega)) (fun c_290 => ?_)
                refine o_iload dL_ships_293 rfl ?_
                refine o_if_lt (tgt := 310) dL_ships_295 (by decide) ⟨by omega, by omega⟩ (fun c_295 => absurd c_295 (by omega)) (fun c_295 => ?_)
                refine o_iload dL_ships_298 rfl ?_
                refine o_if_ne (tgt := 312) dL_ships_300 (by decide) ⟨by omega, by omega⟩ (fun c_300 => ?_) (fun c_300 => ?_)
                · skip
                  exact o_loc [(0, .ref 0), (1, .int (o_I (M 0 0))), (2, .int (o_I (d_all M))), (3, .int (o_I (a))), (4, .int (o_I (b))), (5, .int (o_I (c))), (6, .int (o_I ((s : Int)))), (7, .int (o_I (e))), (9, .int (o_I (d_sh M s)))] rfl (J_312 g _ _ hx (by omega) (by omega))
                · skip
                  refine o_iload dL_ships_303 rfl ?_
                  refine o_iload dL_ships_305 rfl ?_
                  refine o_icmp_le (tgt := 312) dL_ships_307 (by decide) ⟨by omega, by omega⟩ ⟨by omega, by omega⟩ (fun c_307 => ?_) (fun c_307 => absurd (by omega) c_307)
                  exact o_loc [(0, .ref 0), (1, .int (o_I (M 0 0))), (2, .int (o_I (d_all M))), (3, .int (o_I (a))), (4, .int (o_I (b))), (5, .int (o_I (c))), (6, .int (o_I ((s : Int)))), (7, .int (o_I (e))), (9, .int (o_I (d_sh M s)))] rfl (J_312 g _ _ hx (by omega) (by omega))
              · skip
                refine o_iload dL_ships_241 rfl ?_
                refine o_goto (tgt := 259) dL_ships_243 (by decide) ?_
                refine o_istore dL_ships_259 (by decide) ?_
                refine o_iload dL_ships_261 rfl ?_
                refine o_if_eq (tgt := 310) dL_ships_263 (by decide) ⟨by omega, by omega⟩ (fun c_263 => absurd c_263 (by omega)) (fun c_263 => ?_)
                refine o_aload_n dL_ships_266 rfl ?_
                refine o_iload dL_ships_267 rfl ?_
                refine y_q _ (cl_demand hl d g M P S T hx hwf s (by omega)) dL_ships_269 ml_L_216 ys_L_demand rfl (by decide) (by omega) (by omega) (by omega) rfl (Nat.le_of_ble_eq_true rfl) (fun g hx => ?_)
                refine o_iload dL_ships_272 rfl ?_
                refine o_icmp_ne (tgt := 310) dL_ships_274 (by decide) ⟨by omega, by omega⟩ ⟨by omega, by omega⟩ (fun c_274 => absurd (by omega) c_274) (fun c_274 => ?_)
                refine o_aload_n dL_ships_277 rfl ?_
                refine o_iload dL_ships_278 rfl ?_
                refine y_q _ (cl_leases hl d g M P S T hx hwf s (by omega)) dL_ships_280 ml_L_218 ys_L_leases rfl (by decide) (by omega) (by omega) (by omega) rfl (Nat.le_of_ble_eq_true rfl) (fun g hx => ?_)
                refine o_iload dL_ships_283 rfl ?_
                refine o_icmp_ne (tgt := 310) dL_ships_285 (by decide) ⟨by omega, by omega⟩ ⟨by omega, by omega⟩ (fun c_285 => absurd (by omega) c_285) (fun c_285 => ?_)
                refine o_iload dL_ships_288 rfl ?_
                refine o_if_lt (tgt := 310) dL_ships_290 (by decide) ⟨by omega, by omega⟩ (fun c_290 => absurd c_290 (by omega)) (fun c_290 => ?_)
                refine o_iload dL_ships_293 rfl ?_
                refine o_if_lt (tgt := 310) dL_ships_295 (by decide) ⟨by omega, by omega⟩ (fun c_295 => absurd c_295 (by omega)) (fun c_295 => ?_)
                refine o_iload dL_ships_298 rfl ?_
                refine o_if_ne (tgt := 312) dL_ships_300 (by decide) ⟨by omega, by omega⟩ (fun c_300 => ?_) (fun c_300 => ?_)
                · skip
                  exact o_loc [(0, .ref 0), (1, .int (o_I (M 0 0))), (2, .int (o_I (d_all M))), (3, .int (o_I (a))), (4, .int (o_I (b))), (5, .int (o_I (c))), (6, .int (o_I ((s : Int)))), (7, .int (o_I (e))), (9, .int (o_I (d_sh M s)))] rfl (J_312 g _ _ hx (by omega) (by omega))
                · skip
                  refine o_iload dL_ships_303 rfl ?_
                  refine o_iload dL_ships_305 rfl ?_
                  refine o_icmp_le (tgt := 312) dL_ships_307 (by decide) ⟨by omega, by omega⟩ ⟨by omega, by omega⟩ (fun c_307 => ?_) (fun c_307 => absurd (by omega) c_307)
                  exact o_loc [(0, .ref 0), (1, .int (o_I (M 0 0))), (2, .int (o_I (d_all M))), (3, .int (o_I (a))), (4, .int (o_I (b))), (5, .int (o_I (c))), (6, .int (o_I ((s : Int)))), (7, .int (o_I (e))), (9, .int (o_I (d_sh M s)))] rfl (J_312 g _ _ hx (by omega) (by omega))
            · skip
              refine o_iconst dL_ships_217 ?_
              refine o_goto (tgt := 234) dL_ships_218 (by decide) ?_
              refine o_istore dL_ships_234 (by decide) ?_
              refine o_iload dL_ships_236 rfl ?_
              refine o_if_eq (tgt := 246) dL_ships_238 (by decide) ⟨by omega, by omega⟩ (fun c_238 => absurd c_238 (by omega)) (fun c_238 => ?_)
              refine o_iload dL_ships_241 rfl ?_
              refine o_goto (tgt := 259) dL_ships_243 (by decide) ?_
              refine o_istore dL_ships_259 (by decide) ?_
              refine o_iload dL_ships_261 rfl ?_
              refine o_if_eq (tgt := 310) dL_ships_263 (by decide) ⟨by omega, by omega⟩ (fun c_263 => absurd c_263 (by omega)) (fun c_263 => ?_)
              refine o_aload_n dL_ships_266 rfl ?_
              refine o_iload dL_ships_267 rfl ?_
              refine y_q _ (cl_demand hl d g M P S T hx hwf s (by omega)) dL_ships_269 ml_L_216 ys_L_demand rfl (by decide) (by omega) (by omega) (by omega) rfl (Nat.le_of_ble_eq_true rfl) (fun g hx => ?_)
              refine o_iload dL_ships_272 rfl ?_
              refine o_icmp_ne (tgt := 310) dL_ships_274 (by decide) ⟨by omega, by omega⟩ ⟨by omega, by omega⟩ (fun c_274 => absurd (by omega) c_274) (fun c_274 => ?_)
              refine o_aload_n dL_ships_277 rfl ?_
              refine o_iload dL_ships_278 rfl ?_
              refine y_q _ (cl_leases hl d g M P S T hx hwf s (by omega)) dL_ships_280 ml_L_218 ys_L_leases rfl (by decide) (by omega) (by omega) (by omega) rfl (Nat.le_of_ble_eq_true rfl) (fun g hx => ?_)
              refine o_iload dL_ships_283 rfl ?_
              refine o_icmp_ne (tgt := 310) dL_ships_285 (by decide) ⟨by omega, by omega⟩ ⟨by omega, by omega⟩ (fun c_285 => absurd (by omega) c_285) (fun c_285 => ?_)
              refine o_iload dL_ships_288 rfl ?_
              refine o_if_lt (tgt := 310) dL_ships_290 (by decide) ⟨by omega, by omega⟩ (fun c_290 => absurd c_290 (by omega)) (fun c_290 => ?_)
              refine o_iload dL_ships_293 rfl ?_
              refine o_if_lt (tgt := 310) dL_ships_295 (by decide) ⟨by omega, by omega⟩ (fun c_295 => absurd c_295 (by omega)) (fun c_295 => ?_)
              refine o_iload dL_ships_298 rfl ?_
              refine o_if_ne (tgt := 312) dL_ships_300 (by decide) ⟨by omega, by omega⟩ (fun c_300 => ?_) (fun c_300 => absurd c_300 (by omega))
              exact o_loc [(0, .ref 0), (1, .int (o_I (M 0 0))), (2, .int (o_I (d_all M))), (3, .int (o_I (a))), (4, .int (o_I (b))), (5, .int (o_I (c))), (6, .int (o_I ((s : Int)))), (7, .int (o_I (e))), (9, .int (o_I (d_sh M s)))] rfl (J_312 g _ _ hx (by omega) (by omega)))
          have J_185 : ∀ g mc ms, o_xd g M P S T → 12 + (30 * ((M 0 0).toNat - (s + 1)) + 20) ≤ mc → 6 * (12 + (30 * ((M 0 0).toNat - (s + 1)) + 20)) ≤ ms → o_V l mL_ships (d + 10) o_no (y_x (.int (o_I 1)) M P S T) 185 [(0, .ref 0), (1, .int (o_I (M 0 0))), (2, .int (o_I (d_all M))), (3, .int (o_I (a))), (4, .int (o_I (b))), (5, .int (o_I (c))), (6, .int (o_I ((s : Int)))), (7, .int (o_I (e))), (8, .int (o_I (f))), (9, .int (o_I (d_sh M s))), (11, .int (o_I (1)))] [] o_N (o_mem g) mc ms := (fun g mc ms hx h1 h2 => by
            refine o_iload dL_ships_185 rfl ?_
            refine o_if_ne (tgt := 194) dL_ships_187 (by decide) ⟨by omega, by omega⟩ (fun c_187 => ?_) (fun c_187 => ?_)
            · skip
              obtain ⟨s9, hs9⟩ : ∃ s9 : Nat, (s9 : Int) = (s : Int) - 1 := ⟨s - 1, by omega⟩
              obtain ⟨r9, hr1, hr2⟩ := n_sx (M := M) (k := s9) (by omega)
              refine o_aload_n dL_ships_194 rfl ?_
              refine o_iload dL_ships_195 rfl ?_
              refine o_iconst dL_ships_197 ?_
              refine o_isub dL_ships_198 ?_
              rw [← hs9]
              refine y_q _ (cl_byFines hl d g M P S T hx hwf s9 r9 hr1 hr2 (by omega)) dL_ships_199 ml_L_208 ys_L_byFines rfl (by decide) (by omega) (by omega) (by omega) rfl (Nat.le_of_ble_eq_true rfl) (fun g hx => ?_)
              refine o_istore dL_ships_202 (by decide) ?_
              exact o_loc [(0, .ref 0), (1, .int (o_I (M 0 0))), (2, .int (o_I (d_all M))), (3, .int (o_I (a))), (4, .int (o_I (b))), (5, .int (o_I (c))), (6, .int (o_I ((s : Int)))), (7, .int (o_I (e))), (8, .int (o_I (f))), (9, .int (o_I (d_sh M s))), (11, .int (o_I (1))), (12, .int (o_I ((r9 : Int))))] rfl (J_204 ((r9 : Int)) (by first | exact Or.inl ⟨by omega, rfl⟩ | exact Or.inr ⟨r9, rfl, hr1, by omega⟩) g _ _ hx (by omega) (by omega))
            · skip
              refine o_iconst dL_ships_190 ?_
              refine o_goto (tgt := 202) dL_ships_191 (by decide) ?_
              refine o_istore dL_ships_202 (by decide) ?_
              exact o_loc [(0, .ref 0), (1, .int (o_I (M 0 0))), (2, .int (o_I (d_all M))), (3, .int (o_I (a))), (4, .int (o_I (b))), (5, .int (o_I (c))), (6, .int (o_I ((s : Int)))), (7, .int (o_I (e))), (8, .int (o_I (f))), (9, .int (o_I (d_sh M s))), (11, .int (o_I (1))), (12, .int (o_I (-1)))] rfl (J_204 (-1) (by first | exact Or.inl ⟨by omega, rfl⟩ | exact Or.inr ⟨r9, rfl, hr1, by omega⟩) g _ _ hx (by omega) (by omega)))
          have J_131 : ∀ (le : Int), (le = d_q M s) → ∀ g mc ms, o_xd g M P S T → 13 + (30 * ((M 0 0).toNat - (s + 1)) + 20) ≤ mc → 6 * (13 + (30 * ((M 0 0).toNat - (s + 1)) + 20)) ≤ ms → o_V l mL_ships (d + 10) o_no (y_x (.int (o_I 1)) M P S T) 131 [(0, .ref 0), (1, .int (o_I (M 0 0))), (2, .int (o_I (d_all M))), (3, .int (o_I (a))), (4, .int (o_I (b))), (5, .int (o_I (c))), (6, .int (o_I ((s : Int)))), (7, .int (o_I (e))), (8, .int (o_I (f))), (9, .int (o_I (d_sh M s))), (10, .int (o_I (le)))] [] o_N (o_mem g) mc ms := (fun le hle g mc ms hx h1 h2 => by
            refine o_iload dL_ships_131 rfl ?_
            refine o_aload_n dL_ships_133 rfl ?_
            refine o_iload dL_ships_134 rfl ?_
            refine y_q _ (cl_byRank hl d g M P S T hx hwf s (by omega)) dL_ships_136 ml_L_205 ys_L_byRank rfl (by decide) (by omega) (by omega) (by omega) rfl (Nat.le_of_ble_eq_true rfl) (fun g hx => ?_)
            refine o_icmp_ne (tgt := 182) dL_ships_139 (by decide) ⟨by omega, by omega⟩ ⟨by omega, by omega⟩ (fun c_139 => absurd (by omega) c_139) (fun c_139 => ?_)
            refine o_iload dL_ships_142 rfl ?_
            refine o_iload dL_ships_144 rfl ?_
            refine o_icmp_lt (tgt := 182) dL_ships_146 (by decide) ⟨by omega, by omega⟩ ⟨by omega, by omega⟩ (fun c_146 => absurd c_146 (by omega)) (fun c_146 => ?_)
            refine o_iload dL_ships_149 rfl ?_
            refine o_iload dL_ships_151 rfl ?_
            refine o_iload_n dL_ships_153 rfl ?_
            refine o_if_le (tgt := 173) dL_ships_154 (by decide) ⟨by omega, by omega⟩ (fun c_154 => ?_) (fun c_154 => ?_)
            · skip
              have ft : d_sh M s = d_q M s := by first | exact n_fit0 (by omega) | exact n_fit1 hwk (by omega) (by rw [← e9]; omega)
              refine o_iconst dL_ships_173 ?_
              refine o_iadd dL_ships_174 ?_
              refine o_icmp_gt (tgt := 182) dL_ships_175 (by decide) ⟨by omega, by omega⟩ ⟨by omega, by omega⟩ (fun c_175 => absurd c_175 (by omega)) (fun c_175 => ?_)
              refine o_iconst dL_ships_178 ?_
              refine o_goto (tgt := 183) dL_ships_179 (by decide) ?_
              refine o_istore dL_ships_183 (by decide) ?_
              exact o_loc [(0, .ref 0), (1, .int (o_I (M 0 0))), (2, .int (o_I (d_all M))), (3, .int (o_I (a))), (4, .int (o_I (b))), (5, .int (o_I (c))), (6, .int (o_I ((s : Int)))), (7, .int (o_I (e))), (8, .int (o_I (f))), (9, .int (o_I (d_sh M s))), (11, .int (o_I (1)))] rfl (J_185 g _ _ hx (by omega) (by omega))
            · skip
              refine o_aload_n dL_ships_157 rfl ?_
              refine y_v _ (cv_oil hl d g M P S T hx hwf) dL_ships_158 ml_L_168 yw_X11_oil rfl (by decide) (by omega) (by omega) (by omega) (by decide) rfl rfl rfl (Nat.le_of_ble_eq_true rfl) (fun g hx => ?_)
              refine o_iload dL_ships_161 rfl ?_
              refine o_imul dL_ships_163 ?_
              refine o_iload_n dL_ships_164 rfl ?_
              refine o_irem dL_ships_165 ⟨by omega, by omega⟩ ⟨by omega, by omega⟩ (by omega) (by omega) ?_
              have e7 := Int.emod_nonneg (M 0 2 * e) (show d_all M ≠ 0 by omega)
              have e6 := Int.emod_lt_of_pos (M 0 2 * e) (show 0 < d_all M by omega)
              refine o_if_le (tgt := 173) dL_ships_166 (by decide) ⟨by omega, by omega⟩ (fun c_166 => ?_) (fun c_166 => ?_)
              · skip
                have ft : d_sh M s = d_q M s := by first | exact n_fit0 (by omega) | exact n_fit1 hwk (by omega) (by rw [← e9]; omega)
                refine o_iconst dL_ships_173 ?_
                refine o_iadd dL_ships_174 ?_
                refine o_icmp_gt (tgt := 182) dL_ships_175 (by decide) ⟨by omega, by omega⟩ ⟨by omega, by omega⟩ (fun c_175 => absurd c_175 (by omega)) (fun c_175 => ?_)
                refine o_iconst dL_ships_178 ?_
                refine o_goto (tgt := 183) dL_ships_179 (by decide) ?_
                refine o_istore dL_ships_183 (by decide) ?_
                exact o_loc [(0, .ref 0), (1, .int (o_I (M 0 0))), (2, .int (o_I (d_all M))), (3, .int (o_I (a))), (4, .int (o_I (b))), (5, .int (o_I (c))), (6, .int (o_I ((s : Int)))), (7, .int (o_I (e))), (8, .int (o_I (f))), (9, .int (o_I (d_sh M s))), (11, .int (o_I (1)))] rfl (J_185 g _ _ hx (by omega) (by omega))
              · skip
                refine o_iconst dL_ships_169 ?_
                refine o_goto (tgt := 174) dL_ships_170 (by decide) ?_
                refine o_iadd dL_ships_174 ?_
                refine o_icmp_gt (tgt := 182) dL_ships_175 (by decide) ⟨by omega, by omega⟩ ⟨by omega, by omega⟩ (fun c_175 => absurd c_175 (by omega)) (fun c_175 => ?_)
                refine o_iconst dL_ships_178 ?_
                refine o_goto (tgt := 183) dL_ships_179 (by decide) ?_
                refine o_istore dL_ships_183 (by decide) ?_
                exact o_loc [(0, .ref 0), (1, .int (o_I (M 0 0))), (2, .int (o_I (d_all M))), (3, .int (o_I (a))), (4, .int (o_I (b))), (5, .int (o_I (c))), (6, .int (o_I ((s : Int)))), (7, .int (o_I (e))), (8, .int (o_I (f))), (9, .int (o_I (d_sh M s))), (11, .int (o_I (1)))] rfl (J_185 g _ _ hx (by omega) (by omega)))
          refine o_aload_n dL_ships_104 rfl ?_
          refine o_iload dL_ships_105 rfl ?_
          refine y_q _ (cl_share hl d g M P S T hx hwf s (by omega)) dL_ships_107 ml_L_203 ys_L_share rfl (by decide) (by omega) (by omega) (by omega) rfl (Nat.le_of_ble_eq_true rfl) (fun g hx => ?_)
          refine o_istore dL_ships_110 (by decide) ?_
          refine o_iload_n dL_ships_112 rfl ?_
          refine o_if_ne (tgt := 120) dL_ships_113 (by decide) ⟨by omega, by omega⟩ (fun c_113 => ?_) (fun c_113 => ?_)
          · skip
            refine o_aload_n dL_ships_120 rfl ?_
            refine y_v _ (cv_oil hl d g M P S T hx hwf) dL_ships_121 ml_L_168 yw_X11_oil rfl (by decide) (by omega) (by omega) (by omega) (by decide) rfl rfl rfl (Nat.le_of_ble_eq_true rfl) (fun g hx => ?_)
            refine o_iload dL_ships_124 rfl ?_
            refine o_imul dL_ships_126 ?_
            refine o_iload_n dL_ships_127 rfl ?_
            refine o_idiv dL_ships_128 ⟨by omega, by omega⟩ ⟨by omega, by omega⟩ (by omega) (by omega) ?_
            refine o_istore dL_ships_129 (by decide) ?_
            exact o_loc [(0, .ref 0), (1, .int (o_I (M 0 0))), (2, .int (o_I (d_all M))), (3, .int (o_I (a))), (4, .int (o_I (b))), (5, .int (o_I (c))), (6, .int (o_I ((s : Int)))), (7, .int (o_I (e))), (8, .int (o_I (f))), (9, .int (o_I (d_sh M s))), (10, .int (o_I (((M 0 2) * (e)) / (d_all M))))] rfl (J_131 (((M 0 2) * (e)) / (d_all M)) (by first | exact n_q0 (by omega) | (rw [e9]; exact n_q1 (by omega))) g _ _ hx (by omega) (by omega))
          · skip
            refine o_iconst dL_ships_116 ?_
            refine o_goto (tgt := 129) dL_ships_117 (by decide) ?_
            refine o_istore dL_ships_129 (by decide) ?_
            exact o_loc [(0, .ref 0), (1, .int (o_I (M 0 0))), (2, .int (o_I (d_all M))), (3, .int (o_I (a))), (4, .int (o_I (b))), (5, .int (o_I (c))), (6, .int (o_I ((s : Int)))), (7, .int (o_I (e))), (8, .int (o_I (f))), (9, .int (o_I (d_sh M s))), (10, .int (o_I (0)))] rfl (J_131 (0) (by first | exact n_q0 (by omega) | (rw [e9]; exact n_q1 (by omega))) g _ _ hx (by omega) (by omega))
        · skip
          have l1 := bl j (by omega)
          have f5 := les_cs M j
          have f6 := n_les hwl (j := j) (by omega)
          have f7 := o_bcs (M 5 j = (s : Int) + 1)
          refine o_aload_n dL_ships_45 rfl ?_
          refine o_iload dL_ships_46 rfl ?_
          refine y_q _ (cl_lessee hl d g M P S T hx hwf j (by omega)) dL_ships_48 ml_L_201 ys_L_lessee rfl (by decide) (by omega) (by omega) (by omega) rfl (Nat.le_of_ble_eq_true rfl) (fun g hx => ?_)
          refine o_iload dL_ships_51 rfl ?_
          refine o_icmp_ne (tgt := 60) dL_ships_53 (by decide) ⟨by omega, by omega⟩ ⟨by omega, by omega⟩ (fun c_53 => ?_) (fun c_53 => ?_)
          · skip
            refine o_iconst dL_ships_60 ?_
            refine o_istore dL_ships_61 (by decide) ?_
            refine o_iload dL_ships_63 rfl ?_
            refine o_iload dL_ships_65 rfl ?_
            refine o_if_eq (tgt := 79) dL_ships_67 (by decide) ⟨by omega, by omega⟩ (fun c_67 => ?_) (fun c_67 => absurd (by omega) c_67)
            refine o_iconst dL_ships_79 ?_
            refine o_iadd dL_ships_80 ?_
            refine o_istore dL_ships_81 (by decide) ?_
            refine o_iload dL_ships_83 rfl ?_
            refine o_iload dL_ships_85 rfl ?_
            refine o_if_eq (tgt := 94) dL_ships_87 (by decide) ⟨by omega, by omega⟩ (fun c_87 => ?_) (fun c_87 => absurd (by omega) c_87)
            refine o_iconst dL_ships_94 ?_
            refine o_iadd dL_ships_95 ?_
            refine o_istore dL_ships_96 (by decide) ?_
            refine o_iinc dL_ships_98 rfl (by decide) ?_
            refine o_goto (tgt := 36) dL_ships_101 (by decide) ?_
            exact o_loc [(0, .ref 0), (1, .int (o_I (M 0 0))), (2, .int (o_I (d_all M))), (3, .int (o_I (a))), (4, .int (o_I (b))), (5, .int (o_I (c))), (6, .int (o_I ((s : Int)))), (7, .int (o_I ((e) + (0)))), (8, .int (o_I ((f) + (0)))), (9, .int (o_I (((j + 1 : Nat) : Int))))] rfl (ih_36 (by omega) ((e) + (0)) (by simp only [o_sm]; split <;> omega) ((f) + (0)) (by simp only [o_sm]; omega) g _ _ hx (by omega) (by omega))
          · skip
            refine o_iconst dL_ships_56 ?_
            refine o_goto (tgt := 61) dL_ships_57 (by decide) ?_
            refine o_istore dL_ships_61 (by decide) ?_
            refine o_iload dL_ships_63 rfl ?_
            refine o_iload dL_ships_65 rfl ?_
            refine o_if_eq (tgt := 79) dL_ships_67 (by decide) ⟨by omega, by omega⟩ (fun c_67 => absurd c_67 (by omega)) (fun c_67 => ?_)
            refine o_aload_n dL_ships_70 rfl ?_
            refine o_iload dL_ships_71 rfl ?_
            refine y_v _ (cv_level hl d g M P S T hx hwf j (by omega)) dL_ships_73 ml_L_60 yw_X11_level rfl (by decide) (by omega) (by omega) (by omega) (by decide) rfl rfl rfl (Nat.le_of_ble_eq_true rfl) (fun g hx => ?_)
            refine o_goto (tgt := 80) dL_ships_76 (by decide) ?_
            refine o_iadd dL_ships_80 ?_
            refine o_istore dL_ships_81 (by decide) ?_
            refine o_iload dL_ships_83 rfl ?_
            refine o_iload dL_ships_85 rfl ?_
            refine o_if_eq (tgt := 94) dL_ships_87 (by decide) ⟨by omega, by omega⟩ (fun c_87 => absurd c_87 (by omega)) (fun c_87 => ?_)
            refine o_iconst dL_ships_90 ?_
            refine o_goto (tgt := 95) dL_ships_91 (by decide) ?_
            refine o_iadd dL_ships_95 ?_
            refine o_istore dL_ships_96 (by decide) ?_
            refine o_iinc dL_ships_98 rfl (by decide) ?_
            refine o_goto (tgt := 36) dL_ships_101 (by decide) ?_
            exact o_loc [(0, .ref 0), (1, .int (o_I (M 0 0))), (2, .int (o_I (d_all M))), (3, .int (o_I (a))), (4, .int (o_I (b))), (5, .int (o_I (c))), (6, .int (o_I ((s : Int)))), (7, .int (o_I ((e) + (M 4 j)))), (8, .int (o_I ((f) + (1)))), (9, .int (o_I (((j + 1 : Nat) : Int))))] rfl (ih_36 (by omega) ((e) + (M 4 j)) (by simp only [o_sm]; split <;> omega) ((f) + (1)) (by simp only [o_sm]; omega) g _ _ hx (by omega) (by omega)))
      exact o_loc [(0, .ref 0), (1, .int (o_I (M 0 0))), (2, .int (o_I (d_all M))), (3, .int (o_I (a))), (4, .int (o_I (b))), (5, .int (o_I (c))), (6, .int (o_I ((s : Int)))), (7, .int (o_I (0))), (8, .int (o_I (0))), (9, .int (o_I (((0 : Nat) : Int))))] rfl (key_36 0 (Nat.zero_le _) (0) (rfl) (0) (rfl) g _ _ hx (by omega) (by omega)))
  exact o_loc [(0, .ref 0), (1, .int (o_I (M 0 0))), (2, .int (o_I (d_all M))), (3, .int (o_I (0))), (4, .int (o_I (0))), (5, .int (o_I (0))), (6, .int (o_I (((0 : Nat) : Int))))] rfl (key_21 0 (Nat.zero_le _) (0) (rfl) (0) (rfl) (0) (rfl) g _ _ hx (by omega) (by omega))
