/-! the law's lamps -/
def l_pv (M : Nat → Nat → Int) (k : Nat) (p : Int) : Prop := (k = 0 ∧ p = -1) ∨ ∃ r : Nat, p = (r : Int) ∧ (r : Int) < M 0 1 ∧ 0 < M 5 r ∧ o_rkL M r = (k : Int) - 1
theorem l_pv.r {M : Nat → Nat → Int} {k : Nat} {p : Int} (h : l_pv M k p) (hk : ¬ (k : Int) = 0) : ∃ r : Nat, p = (r : Int) ∧ (r : Int) < M 0 1 ∧ 0 < M 5 r ∧ o_rkL M r = (k : Int) - 1 := Or.resolve_left h (fun z => hk (by rw [z.1]; rfl))
set_option maxRecDepth 100000 in
set_option maxHeartbeats 4000000 in
/-- lamps -/
theorem ct_L_lamps {l : Launch} (hl : l.stackTraces = false) (d : Nat) (g M : Nat → Nat → Int) (P : List (Nat → Nat → Int)) (S : Option (Nat → Nat → Int)) (T : Nat → Nat → Int) (hx : o_xd g M P S T) (hwf : o_wf M) (hek : e_ok M) (hl1 : 1 ≤ M 0 1) : o_Ct l yL_lamps wL_lamps (d + 10) o_no [.ref 0] o_N (o_mem g) 300 1800 (y_x (.int (o_I 1)) M P S T) := by
  refine o_Ct.ofV hl mL_lamps (by decide +kernel) rfl rfl rfl (Nat.le_of_ble_eq_true rfl) ?_
  obtain ⟨⟨hws, hwl, hwq, hwo, hwle, hwrq, hwrd⟩, hwh, hwc, hwe⟩ := id hwf
  obtain ⟨b0, b1, bs⟩ := id hws
  obtain ⟨b2, b3, b4, b5, bl⟩ := id hwl
  obtain ⟨b6, b7, bq⟩ := id hwq
  obtain ⟨b8, b9⟩ := id hwo
  refine o_aload_n dL_lamps_0 rfl ?_
  refine y_v _ (cv_lampCount hl d g M P S T hx hwf) dL_lamps_1 ml_L_171 yw_X11_lampCount rfl (by decide) (by omega) (by omega) (by omega) (by decide) rfl rfl rfl (Nat.le_of_ble_eq_true rfl) (fun g hx => ?_)
  refine o_istore_n dL_lamps_4 (by decide) ?_
  refine o_iconst dL_lamps_5 ?_
  refine o_istore_n dL_lamps_6 (by decide) ?_
  refine o_iconst dL_lamps_7 ?_
  refine o_istore_n dL_lamps_8 (by decide) ?_
  have key_9 := o_lp (fun j => ∀ (q : Int), (q = o_sm (fun i => o_b (0 < M 5 i)) j) → ∀ g mc ms, o_xd g M P S T → 8 * ((M 0 1).toNat - j) + 200 ≤ mc → 6 * (8 * ((M 0 1).toNat - j) + 200) ≤ ms → o_V l mL_lamps (d + 10) o_no (y_x (.int (o_I 1)) M P S T) 9 [(0, .ref 0), (1, .int (o_I (M 0 1))), (2, .int (o_I (q))), (3, .int (o_I ((j : Int))))] [] o_N (o_mem g) mc ms) (M 0 1).toNat (fun j hj ih_9 q hq g mc ms hx h1 h2 => by
    refine o_iload_n dL_lamps_9 rfl ?_
    refine o_iload_n dL_lamps_10 rfl ?_
    refine o_icmp_ge (tgt := 131) dL_lamps_11 (by decide) ⟨by omega, by omega⟩ ⟨by omega, by omega⟩ (fun c_11 => ?_) (fun c_11 => ?_)
    · skip
      have q9 : q = o_sm (fun i => o_b (0 < M 5 i)) (M 0 1).toNat := by rw [hq, show j = (M 0 1).toNat by omega]
      have q8 := o_sm_b (fun i => 0 < M 5 i) (M 0 1).toNat
      refine o_iconst dL_lamps_131 ?_
      refine o_istore_n dL_lamps_132 (by decide) ?_
      have key_133 := o_lp (fun k => ∀ g mc ms, o_xd g M P S T → 12 * (q.toNat - k) + (4 * (M 0 6).toNat + 20) ≤ mc → 6 * (12 * (q.toNat - k) + (4 * (M 0 6).toNat + 20)) ≤ ms → o_V l mL_lamps (d + 10) o_no (y_x (.int (o_I 1)) M P S T) 133 [(0, .ref 0), (1, .int (o_I (M 0 1))), (2, .int (o_I (q))), (3, .int (o_I ((k : Int))))] [] o_N (o_mem g) mc ms) q.toNat (fun k hk ih_133  g mc ms hx h1 h2 => by
        refine o_iload_n dL_lamps_133 rfl ?_
        refine o_iload_n dL_lamps_134 rfl ?_
        refine o_icmp_ge (tgt := 250) dL_lamps_135 (by decide) ⟨by omega, by omega⟩ ⟨by omega, by omega⟩ (fun c_135 => ?_) (fun c_135 => ?_)
        · skip
          refine o_iconst dL_lamps_250 ?_
          refine o_istore_n dL_lamps_251 (by decide) ?_
          have key_252 := o_lp (fun k => ∀ g mc ms, o_xd g M P S T → 4 * ((M 0 6).toNat - k) + 20 ≤ mc → 6 * (4 * ((M 0 6).toNat - k) + 20) ≤ ms → o_V l mL_lamps (d + 10) o_no (y_x (.int (o_I 1)) M P S T) 252 [(0, .ref 0), (1, .int (o_I (M 0 1))), (2, .int (o_I (q))), (3, .int (o_I ((k : Int))))] [] o_N (o_mem g) mc ms) (M 0 6).toNat (fun k hk ih_252  g mc ms hx h1 h2 => by
            refine o_iload_n dL_lamps_252 rfl ?_
            refine o_aload_n dL_lamps_253 rfl ?_
            refine y_v _ (cv_requestCount hl d g M P S T hx hwf) dL_lamps_254 ml_L_274 yw_X11_requestCount rfl (by decide) (by omega) (by omega) (by omega) (by decide) rfl rfl rfl (Nat.le_of_ble_eq_true rfl) (fun g hx => ?_)
            refine o_icmp_ge (tgt := 300) dL_lamps_257 (by decide) ⟨by omega, by omega⟩ ⟨by omega, by omega⟩ (fun c_257 => ?_) (fun c_257 => ?_)
            · skip
              refine o_aload_n dL_lamps_300 rfl ?_
              refine y_v _ (cv_requestCount hl d g M P S T hx hwf) dL_lamps_301 ml_L_274 yw_X11_requestCount rfl (by decide) (by omega) (by omega) (by omega) (by decide) rfl rfl rfl (Nat.le_of_ble_eq_true rfl) (fun g hx => ?_)
              refine o_istore_n dL_lamps_304 (by decide) ?_
              refine o_aload_n dL_lamps_305 rfl ?_
              refine y_v _ (cv_leasedLamps hl d g M P S T hx hwf) dL_lamps_306 ml_L_283 yw_X11_leasedLamps rfl (by decide) (by omega) (by omega) (by omega) (by decide) rfl rfl rfl (Nat.le_of_ble_eq_true rfl) (fun g hx => ?_)
              refine o_iload_n dL_lamps_309 rfl ?_
              refine o_icmp_ne (tgt := 440) dL_lamps_310 (by decide) ⟨by omega, by omega⟩ ⟨by omega, by omega⟩ (fun c_310 => absurd (by omega) c_310) (fun c_310 => ?_)
              rw [q9]
              refine o_aload_n dL_lamps_313 rfl ?_
              refine y_v _ (cv_leasedShare hl d g M P S T hx hwf (by omega)) dL_lamps_314 ml_L_286 yw_X11_leasedShare rfl (by decide) (by omega) (by omega) (by omega) (by decide) rfl rfl rfl (Nat.le_of_ble_eq_true rfl) (fun g hx => ?_)
              refine o_iload_n dL_lamps_317 rfl ?_
              refine o_i2f dL_lamps_318 ?_
              refine o_iload_n dL_lamps_319 rfl ?_
              refine o_i2f dL_lamps_320 ?_
              refine o_fdiv dL_lamps_321 (f_shr_ok hwf.1 (by omega)).1 ?_
              refine o_fcmp dL_lamps_322 ?_
              rw [fc_self (x := f_shr M) (y := FP.fdiv (FP.i2f (o_I (o_sm (fun i => o_b (0 < M 5 i)) (M 0 1).toNat))) (FP.i2f (o_I (M 0 1)))) (f_shr_c hwf.1 (by omega)) rfl]
              refine o_if_ne (tgt := 440) dL_lamps_323 (by decide) ⟨by omega, by omega⟩ (fun c_323 => absurd (by omega) c_323) (fun c_323 => ?_)
              refine o_aload_n dL_lamps_326 rfl ?_
              refine o_iload_n dL_lamps_327 rfl ?_
              refine y_q _ (cx_byEnd hl d g M P S T hx hwf (o_sm (fun i => o_b (0 < M 5 i)) (M 0 1).toNat) ⟨by omega, by omega⟩ (by omega)) dL_lamps_328 ml_L_271 ys_L_byEnd rfl (by decide) (by omega) (by omega) (by omega) rfl (Nat.le_of_ble_eq_true rfl) (fun g hx => ?_)
              refine o_bipush dL_lamps_331 (by decide) ?_
              refine o_icmp_ne (tgt := 440) dL_lamps_333 (by decide) ⟨by omega, by omega⟩ ⟨by omega, by omega⟩ (fun c_333 => absurd (by omega) c_333) (fun c_333 => ?_)
              refine o_aload_n dL_lamps_336 rfl ?_
              refine o_iconst dL_lamps_337 ?_
              refine y_q _ (cx_byEnd hl d g M P S T hx hwf (-1) ⟨by omega, by omega⟩ (by omega)) dL_lamps_338 ml_L_271 ys_L_byEnd rfl (by decide) (by omega) (by omega) (by omega) rfl (Nat.le_of_ble_eq_true rfl) (fun g hx => ?_)
              refine o_bipush dL_lamps_341 (by decide) ?_
              refine o_icmp_ne (tgt := 440) dL_lamps_343 (by decide) ⟨by omega, by omega⟩ ⟨by omega, by omega⟩ (fun c_343 => absurd (by omega) c_343) (fun c_343 => ?_)
              refine o_aload_n dL_lamps_346 rfl ?_
              refine o_iload_n dL_lamps_347 rfl ?_
              refine y_q _ (cx_asked hl d g M P S T hx hwf (M 0 6) ⟨by omega, by omega⟩ (by omega)) dL_lamps_348 ml_L_277 ys_L_asked rfl (by decide) (by omega) (by omega) (by omega) rfl (Nat.le_of_ble_eq_true rfl) (fun g hx => ?_)
              refine o_bipush dL_lamps_351 (by decide) ?_
              refine o_icmp_ne (tgt := 440) dL_lamps_353 (by decide) ⟨by omega, by omega⟩ ⟨by omega, by omega⟩ (fun c_353 => absurd (by omega) c_353) (fun c_353 => ?_)
              refine o_aload_n dL_lamps_356 rfl ?_
              refine o_iload_n dL_lamps_357 rfl ?_
              refine y_q _ (cx_askedHours hl d g M P S T hx hwf (M 0 6) ⟨by omega, by omega⟩ (by omega)) dL_lamps_358 ml_L_280 ys_L_askedHours rfl (by decide) (by omega) (by omega) (by omega) rfl (Nat.le_of_ble_eq_true rfl) (fun g hx => ?_)
              refine o_bipush dL_lamps_361 (by decide) ?_
              refine o_icmp_ne (tgt := 440) dL_lamps_363 (by decide) ⟨by omega, by omega⟩ ⟨by omega, by omega⟩ (fun c_363 => absurd (by omega) c_363) (fun c_363 => ?_)
              refine o_aload_n dL_lamps_366 rfl ?_
              refine o_iconst dL_lamps_367 ?_
              refine y_q _ (cx_asked hl d g M P S T hx hwf (-1) ⟨by omega, by omega⟩ (by omega)) dL_lamps_368 ml_L_277 ys_L_asked rfl (by decide) (by omega) (by omega) (by omega) rfl (Nat.le_of_ble_eq_true rfl) (fun g hx => ?_)
              refine o_bipush dL_lamps_371 (by decide) ?_
              refine o_icmp_ne (tgt := 440) dL_lamps_373 (by decide) ⟨by omega, by omega⟩ ⟨by omega, by omega⟩ (fun c_373 => absurd (by omega) c_373) (fun c_373 => ?_)
              refine o_aload_n dL_lamps_376 rfl ?_
              refine o_iload_n dL_lamps_377 rfl ?_
              refine y_q _ (cx_level hl d g M P S T hx hwf (M 0 1) ⟨by omega, by omega⟩ (by omega)) dL_lamps_378 ml_L_239 ys_L_level rfl (by decide) (by omega) (by omega) (by omega) rfl (Nat.le_of_ble_eq_true rfl) (fun g hx => ?_)
              refine o_bipush dL_lamps_381 (by decide) ?_
              refine o_icmp_ne (tgt := 440) dL_lamps_383 (by decide) ⟨by omega, by omega⟩ ⟨by omega, by omega⟩ (fun c_383 => absurd (by omega) c_383) (fun c_383 => ?_)
              refine o_aload_n dL_lamps_386 rfl ?_
              refine o_iload_n dL_lamps_387 rfl ?_
              refine y_q _ (cx_isLeased hl d g M P S T hx hwf (M 0 1) ⟨by omega, by omega⟩ (by omega)) dL_lamps_388 ml_L_237 ys_L_isLeased rfl (by decide) (by omega) (by omega) (by omega) rfl (Nat.le_of_ble_eq_true rfl) (fun g hx => ?_)
              refine o_bipush dL_lamps_391 (by decide) ?_
              refine o_icmp_ne (tgt := 440) dL_lamps_393 (by decide) ⟨by omega, by omega⟩ ⟨by omega, by omega⟩ (fun c_393 => absurd (by omega) c_393) (fun c_393 => ?_)
              refine o_aload_n dL_lamps_396 rfl ?_
              refine o_iload_n dL_lamps_397 rfl ?_
              refine y_q _ (cx_lessee hl d g M P S T hx hwf (M 0 1) ⟨by omega, by omega⟩ (by omega)) dL_lamps_398 ml_L_201 ys_L_lessee rfl (by decide) (by omega) (by omega) (by omega) rfl (Nat.le_of_ble_eq_true rfl) (fun g hx => ?_)
              refine o_bipush dL_lamps_401 (by decide) ?_
              refine o_icmp_ne (tgt := 440) dL_lamps_403 (by decide) ⟨by omega, by omega⟩ ⟨by omega, by omega⟩ (fun c_403 => absurd (by omega) c_403) (fun c_403 => ?_)
              refine o_aload_n dL_lamps_406 rfl ?_
              refine o_iconst dL_lamps_407 ?_
              refine y_q _ (cx_end hl d g M P S T hx hwf (-1) ⟨by omega, by omega⟩ (by omega)) dL_lamps_408 ml_L_231 ys_L_end rfl (by decide) (by omega) (by omega) (by omega) rfl (Nat.le_of_ble_eq_true rfl) (fun g hx => ?_)
              refine o_bipush dL_lamps_411 (by decide) ?_
              refine o_icmp_ne (tgt := 440) dL_lamps_413 (by decide) ⟨by omega, by omega⟩ ⟨by omega, by omega⟩ (fun c_413 => absurd (by omega) c_413) (fun c_413 => ?_)
              refine o_aload_n dL_lamps_416 rfl ?_
              refine o_iload_n dL_lamps_417 rfl ?_
              refine y_q _ (cx_bright hl d g M P S T hx hwf (M 0 1) ⟨by omega, by omega⟩ (by omega)) dL_lamps_418 ml_L_265 ys_L_bright rfl (by decide) (by omega) (by omega) (by omega) rfl (Nat.le_of_ble_eq_true rfl) (fun g hx => ?_)
              refine o_bipush dL_lamps_421 (by decide) ?_
              refine o_icmp_ne (tgt := 440) dL_lamps_423 (by decide) ⟨by omega, by omega⟩ ⟨by omega, by omega⟩ (fun c_423 => absurd (by omega) c_423) (fun c_423 => ?_)
              refine o_aload_n dL_lamps_426 rfl ?_
              refine o_iload_n dL_lamps_427 rfl ?_
              refine y_q _ (cx_was hl d g M P S T hx hwf (M 0 1) ⟨by omega, by omega⟩ (by omega)) dL_lamps_428 ml_L_268 ys_L_was rfl (by decide) (by omega) (by omega) (by omega) rfl (Nat.le_of_ble_eq_true rfl) (fun g hx => ?_)
              refine o_bipush dL_lamps_431 (by decide) ?_
              refine o_icmp_ne (tgt := 440) dL_lamps_433 (by decide) ⟨by omega, by omega⟩ ⟨by omega, by omega⟩ (fun c_433 => absurd (by omega) c_433) (fun c_433 => ?_)
              refine o_iconst dL_lamps_436 ?_
              refine o_goto (tgt := 441) dL_lamps_437 (by decide) ?_
              refine o_ret1 dL_lamps_441 (by first | exact o_rb0 | exact o_rb1) ?_
              exact ⟨rfl, ⟨g, rfl, hx⟩, rfl⟩
            · skip
              have l1 := bq k (by omega)
              obtain ⟨x9, hx9⟩ : ∃ x9 : Nat, (x9 : Int) = M 9 k := ⟨(M 9 k).toNat, by omega⟩
              have h5 : 0 < M 5 x9 := by have z := hwrq k (by omega); rwa [show (M 9 k).toNat = x9 by omega] at z
              have h6 := o_b1 h5
              refine o_aload_n dL_lamps_260 rfl ?_
              refine o_aload_n dL_lamps_261 rfl ?_
              refine o_iload_n dL_lamps_262 rfl ?_
              refine y_q _ (cl_asked hl d g M P S T hx hwf k (by omega)) dL_lamps_263 ml_L_277 ys_L_asked rfl (by decide) (by omega) (by omega) (by omega) rfl (Nat.le_of_ble_eq_true rfl) (fun g hx => ?_)
              rw [← hx9]
              refine y_q _ (cl_isLeased hl d g M P S T hx hwf x9 (by omega)) dL_lamps_266 ml_L_237 ys_L_isLeased rfl (by decide) (by omega) (by omega) (by omega) rfl (Nat.le_of_ble_eq_true rfl) (fun g hx => ?_)
              refine o_iconst dL_lamps_269 ?_
              refine o_icmp_ne (tgt := 292) dL_lamps_270 (by decide) ⟨by omega, by omega⟩ ⟨by omega, by omega⟩ (fun c_270 => absurd (by omega) c_270) (fun c_270 => ?_)
              refine o_aload_n dL_lamps_273 rfl ?_
              refine o_iload_n dL_lamps_274 rfl ?_
              refine y_q _ (cl_askedHours hl d g M P S T hx hwf k (by omega)) dL_lamps_275 ml_L_280 ys_L_askedHours rfl (by decide) (by omega) (by omega) (by omega) rfl (Nat.le_of_ble_eq_true rfl) (fun g hx => ?_)
              refine o_iconst dL_lamps_278 ?_
              refine o_icmp_lt (tgt := 292) dL_lamps_279 (by decide) ⟨by omega, by omega⟩ ⟨by omega, by omega⟩ (fun c_279 => absurd c_279 (by omega)) (fun c_279 => ?_)
              refine o_aload_n dL_lamps_282 rfl ?_
              refine o_iload_n dL_lamps_283 rfl ?_
              refine y_q _ (cl_askedHours hl d g M P S T hx hwf k (by omega)) dL_lamps_284 ml_L_280 ys_L_askedHours rfl (by decide) (by omega) (by omega) (by omega) rfl (Nat.le_of_ble_eq_true rfl) (fun g hx => ?_)
              refine o_bipush dL_lamps_287 (by decide) ?_
              refine o_icmp_le (tgt := 294) dL_lamps_289 (by decide) ⟨by omega, by omega⟩ ⟨by omega, by omega⟩ (fun c_289 => ?_) (fun c_289 => absurd (by omega) c_289)
              refine o_iinc dL_lamps_294 rfl (by decide) ?_
              refine o_goto (tgt := 252) dL_lamps_297 (by decide) ?_
              exact o_loc [(0, .ref 0), (1, .int (o_I (M 0 1))), (2, .int (o_I (q))), (3, .int (o_I (((k + 1 : Nat) : Int))))] rfl (ih_252 (by omega)  g _ _ hx (by omega) (by omega)))
          exact o_loc [(0, .ref 0), (1, .int (o_I (M 0 1))), (2, .int (o_I (q))), (3, .int (o_I (((0 : Nat) : Int))))] rfl (key_252 0 (Nat.zero_le _)  g _ _ hx (by omega) (by omega))
        · skip
          obtain ⟨i9, i1, i2, i3⟩ := n_lx (M := M) (k := k) (by omega)
          have x1 := bl i9 i1
          have x3 := end_cs M i9
          have x5 := o_b1 i2
          refine o_aload_n dL_lamps_138 rfl ?_
          refine o_iload_n dL_lamps_139 rfl ?_
          refine y_q _ (cl_byEnd hl d g M P S T hx hwf k i9 i1 i2 i3 (by omega)) dL_lamps_140 ml_L_271 ys_L_byEnd rfl (by decide) (by omega) (by omega) (by omega) rfl (Nat.le_of_ble_eq_true rfl) (fun g hx => ?_)
          refine o_istore dL_lamps_143 (by decide) ?_
          have J_162 : ∀ (p : Int), (l_pv M k p) → ∀ g mc ms, o_xd g M P S T → 10 + (12 * (q.toNat - (k + 1)) + (4 * (M 0 6).toNat + 20)) ≤ mc → 6 * (10 + (12 * (q.toNat - (k + 1)) + (4 * (M 0 6).toNat + 20))) ≤ ms → o_V l mL_lamps (d + 10) o_no (y_x (.int (o_I 1)) M P S T) 162 [(0, .ref 0), (1, .int (o_I (M 0 1))), (2, .int (o_I (q))), (3, .int (o_I ((k : Int)))), (4, .int (o_I ((i9 : Int)))), (5, .int (o_I (p)))] [] o_N (o_mem g) mc ms := (fun p hp g mc ms hx h1 h2 => by
            have p9 : -1 ≤ p ∧ p < 8 := by rcases hp with z | ⟨r, z1, z2, -⟩ <;> exact ⟨by omega, by omega⟩
            refine o_iload_n dL_lamps_162 rfl ?_
            refine o_if_ne (tgt := 170) dL_lamps_163 (by decide) ⟨by omega, by omega⟩ (fun c_163 => ?_) (fun c_163 => ?_)
            · skip
              obtain ⟨r, rfl, hr1, hr5, hr2⟩ := l_pv.r hp (by omega)
              have x2 := bl r hr1
              have x4 := end_cs M r
              have ah : M 6 r < M 6 i9 ∨ (M 6 r = M 6 i9 ∧ (M 4 i9 < M 4 r ∨ (M 4 i9 = M 4 r ∧ r < i9))) := n_lah i1 i2 (by omega)
              refine o_aload_n dL_lamps_170 rfl ?_
              refine o_iload dL_lamps_171 rfl ?_
              refine y_q _ (cl_end hl d g M P S T hx hwf i9 (by omega)) dL_lamps_173 ml_L_231 ys_L_end rfl (by decide) (by omega) (by omega) (by omega) rfl (Nat.le_of_ble_eq_true rfl) (fun g hx => ?_)
              refine o_aload_n dL_lamps_176 rfl ?_
              refine o_iload dL_lamps_177 rfl ?_
              refine y_q _ (cl_end hl d g M P S T hx hwf r (by omega)) dL_lamps_179 ml_L_231 ys_L_end rfl (by decide) (by omega) (by omega) (by omega) rfl (Nat.le_of_ble_eq_true rfl) (fun g hx => ?_)
              refine o_isub dL_lamps_182 ?_
              refine o_istore dL_lamps_183 (by decide) ?_
              refine o_iload dL_lamps_185 rfl ?_
              refine o_if_eq (tgt := 195) dL_lamps_187 (by decide) ⟨by omega, by omega⟩ (fun c_187 => ?_) (fun c_187 => ?_)
              · skip
                refine o_aload_n dL_lamps_195 rfl ?_
                refine o_iload dL_lamps_196 rfl ?_
                refine y_q _ (cl_level hl d g M P S T hx hwf r (by omega)) dL_lamps_198 ml_L_239 ys_L_level rfl (by decide) (by omega) (by omega) (by omega) rfl (Nat.le_of_ble_eq_true rfl) (fun g hx => ?_)
                refine o_aload_n dL_lamps_201 rfl ?_
                refine o_iload dL_lamps_202 rfl ?_
                refine y_q _ (cl_level hl d g M P S T hx hwf i9 (by omega)) dL_lamps_204 ml_L_239 ys_L_level rfl (by decide) (by omega) (by omega) (by omega) rfl (Nat.le_of_ble_eq_true rfl) (fun g hx => ?_)
                refine o_isub dL_lamps_207 ?_
                refine o_istore dL_lamps_208 (by decide) ?_
                refine o_iload dL_lamps_210 rfl ?_
                refine o_if_lt (tgt := 242) dL_lamps_212 (by decide) ⟨by omega, by omega⟩ (fun c_212 => absurd c_212 (by omega)) (fun c_212 => ?_)
                refine o_aload_n dL_lamps_215 rfl ?_
                refine o_iload dL_lamps_216 rfl ?_
                refine y_q _ (cl_isLeased hl d g M P S T hx hwf i9 (by omega)) dL_lamps_218 ml_L_237 ys_L_isLeased rfl (by decide) (by omega) (by omega) (by omega) rfl (Nat.le_of_ble_eq_true rfl) (fun g hx => ?_)
                refine o_iconst dL_lamps_221 ?_
                refine o_icmp_ne (tgt := 242) dL_lamps_222 (by decide) ⟨by omega, by omega⟩ ⟨by omega, by omega⟩ (fun c_222 => absurd (by omega) c_222) (fun c_222 => ?_)
                refine o_iload dL_lamps_225 rfl ?_
                refine o_if_lt (tgt := 242) dL_lamps_227 (by decide) ⟨by omega, by omega⟩ (fun c_227 => absurd c_227 (by omega)) (fun c_227 => ?_)
                refine o_iload dL_lamps_230 rfl ?_
                refine o_if_ne (tgt := 244) dL_lamps_232 (by decide) ⟨by omega, by omega⟩ (fun c_232 => ?_) (fun c_232 => ?_)
                · skip
                  refine o_iinc dL_lamps_244 rfl (by decide) ?_
                  refine o_goto (tgt := 133) dL_lamps_247 (by decide) ?_
                  exact o_loc [(0, .ref 0), (1, .int (o_I (M 0 1))), (2, .int (o_I (q))), (3, .int (o_I (((k + 1 : Nat) : Int))))] rfl (ih_133 (by omega)  g _ _ hx (by omega) (by omega))
                · skip
                  refine o_iload dL_lamps_235 rfl ?_
                  refine o_iload dL_lamps_237 rfl ?_
                  refine o_icmp_le (tgt := 244) dL_lamps_239 (by decide) ⟨by omega, by omega⟩ ⟨by omega, by omega⟩ (fun c_239 => ?_) (fun c_239 => absurd (by omega) c_239)
                  refine o_iinc dL_lamps_244 rfl (by decide) ?_
                  refine o_goto (tgt := 133) dL_lamps_247 (by decide) ?_
                  exact o_loc [(0, .ref 0), (1, .int (o_I (M 0 1))), (2, .int (o_I (q))), (3, .int (o_I (((k + 1 : Nat) : Int))))] rfl (ih_133 (by omega)  g _ _ hx (by omega) (by omega))
              · skip
                refine o_iload dL_lamps_190 rfl ?_
                refine o_goto (tgt := 208) dL_lamps_192 (by decide) ?_
                refine o_istore dL_lamps_208 (by decide) ?_
                refine o_iload dL_lamps_210 rfl ?_
                refine o_if_lt (tgt := 242) dL_lamps_212 (by decide) ⟨by omega, by omega⟩ (fun c_212 => absurd c_212 (by omega)) (fun c_212 => ?_)
                refine o_aload_n dL_lamps_215 rfl ?_
                refine o_iload dL_lamps_216 rfl ?_
                refine y_q _ (cl_isLeased hl d g M P S T hx hwf i9 (by omega)) dL_lamps_218 ml_L_237 ys_L_isLeased rfl (by decide) (by omega) (by omega) (by omega) rfl (Nat.le_of_ble_eq_true rfl) (fun g hx => ?_)
                refine o_iconst dL_lamps_221 ?_
                refine o_icmp_ne (tgt := 242) dL_lamps_222 (by decide) ⟨by omega, by omega⟩ ⟨by omega, by omega⟩ (fun c_222 => absurd (by omega) c_222) (fun c_222 => ?_)
                refine o_iload dL_lamps_225 rfl ?_
                refine o_if_lt (tgt := 242) dL_lamps_227 (by decide) ⟨by omega, by omega⟩ (fun c_227 => absurd c_227 (by omega)) (fun c_227 => ?_)
                refine o_iload dL_lamps_230 rfl ?_
                refine o_if_ne (tgt := 244) dL_lamps_232 (by decide) ⟨by omega, by omega⟩ (fun c_232 => ?_) (fun c_232 => ?_)
                · skip
                  refine o_iinc dL_lamps_244 rfl (by decide) ?_
                  refine o_goto (tgt := 133) dL_lamps_247 (by decide) ?_
                  exact o_loc [(0, .ref 0), (1, .int (o_I (M 0 1))), (2, .int (o_I (q))), (3, .int (o_I (((k + 1 : Nat) : Int))))] rfl (ih_133 (by omega)  g _ _ hx (by omega) (by omega))
                · skip
                  refine o_iload dL_lamps_235 rfl ?_
                  refine o_iload dL_lamps_237 rfl ?_
                  refine o_icmp_le (tgt := 244) dL_lamps_239 (by decide) ⟨by omega, by omega⟩ ⟨by omega, by omega⟩ (fun c_239 => ?_) (fun c_239 => absurd (by omega) c_239)
                  refine o_iinc dL_lamps_244 rfl (by decide) ?_
                  refine o_goto (tgt := 133) dL_lamps_247 (by decide) ?_
                  exact o_loc [(0, .ref 0), (1, .int (o_I (M 0 1))), (2, .int (o_I (q))), (3, .int (o_I (((k + 1 : Nat) : Int))))] rfl (ih_133 (by omega)  g _ _ hx (by omega) (by omega))
            · skip
              refine o_iconst dL_lamps_166 ?_
              refine o_goto (tgt := 183) dL_lamps_167 (by decide) ?_
              refine o_istore dL_lamps_183 (by decide) ?_
              refine o_iload dL_lamps_185 rfl ?_
              refine o_if_eq (tgt := 195) dL_lamps_187 (by decide) ⟨by omega, by omega⟩ (fun c_187 => absurd c_187 (by omega)) (fun c_187 => ?_)
              refine o_iload dL_lamps_190 rfl ?_
              refine o_goto (tgt := 208) dL_lamps_192 (by decide) ?_
              refine o_istore dL_lamps_208 (by decide) ?_
              refine o_iload dL_lamps_210 rfl ?_
              refine o_if_lt (tgt := 242) dL_lamps_212 (by decide) ⟨by omega, by omega⟩ (fun c_212 => absurd c_212 (by omega)) (fun c_212 => ?_)
              refine o_aload_n dL_lamps_215 rfl ?_
              refine o_iload dL_lamps_216 rfl ?_
              refine y_q _ (cl_isLeased hl d g M P S T hx hwf i9 (by omega)) dL_lamps_218 ml_L_237 ys_L_isLeased rfl (by decide) (by omega) (by omega) (by omega) rfl (Nat.le_of_ble_eq_true rfl) (fun g hx => ?_)
              refine o_iconst dL_lamps_221 ?_
              refine o_icmp_ne (tgt := 242) dL_lamps_222 (by decide) ⟨by omega, by omega⟩ ⟨by omega, by omega⟩ (fun c_222 => absurd (by omega) c_222) (fun c_222 => ?_)
              refine o_iload dL_lamps_225 rfl ?_
              refine o_if_lt (tgt := 242) dL_lamps_227 (by decide) ⟨by omega, by omega⟩ (fun c_227 => absurd c_227 (by omega)) (fun c_227 => ?_)
              refine o_iload dL_lamps_230 rfl ?_
              refine o_if_ne (tgt := 244) dL_lamps_232 (by decide) ⟨by omega, by omega⟩ (fun c_232 => ?_) (fun c_232 => absurd c_232 (by omega))
              refine o_iinc dL_lamps_244 rfl (by decide) ?_
              refine o_goto (tgt := 133) dL_lamps_247 (by decide) ?_
              exact o_loc [(0, .ref 0), (1, .int (o_I (M 0 1))), (2, .int (o_I (q))), (3, .int (o_I (((k + 1 : Nat) : Int))))] rfl (ih_133 (by omega)  g _ _ hx (by omega) (by omega)))
          refine o_iload_n dL_lamps_145 rfl ?_
          refine o_if_ne (tgt := 153) dL_lamps_146 (by decide) ⟨by omega, by omega⟩ (fun c_146 => ?_) (fun c_146 => ?_)
          · skip
            obtain ⟨s9, hs9⟩ : ∃ s9 : Nat, (s9 : Int) = (k : Int) - 1 := ⟨k - 1, by omega⟩
            obtain ⟨r9, hr1, hr5, hr2⟩ := n_lx (M := M) (k := s9) (by omega)
            refine o_aload_n dL_lamps_153 rfl ?_
            refine o_iload_n dL_lamps_154 rfl ?_
            refine o_iconst dL_lamps_155 ?_
            refine o_isub dL_lamps_156 ?_
            rw [← hs9]
            refine y_q _ (cl_byEnd hl d g M P S T hx hwf s9 r9 hr1 hr5 hr2 (by omega)) dL_lamps_157 ml_L_271 ys_L_byEnd rfl (by decide) (by omega) (by omega) (by omega) rfl (Nat.le_of_ble_eq_true rfl) (fun g hx => ?_)
            refine o_istore dL_lamps_160 (by decide) ?_
            exact o_loc [(0, .ref 0), (1, .int (o_I (M 0 1))), (2, .int (o_I (q))), (3, .int (o_I ((k : Int)))), (4, .int (o_I ((i9 : Int)))), (5, .int (o_I ((r9 : Int))))] rfl (J_162 ((r9 : Int)) (by first | exact Or.inl ⟨by omega, rfl⟩ | exact Or.inr ⟨r9, rfl, hr1, hr5, by omega⟩) g _ _ hx (by omega) (by omega))
          · skip
            refine o_iconst dL_lamps_149 ?_
            refine o_goto (tgt := 160) dL_lamps_150 (by decide) ?_
            refine o_istore dL_lamps_160 (by decide) ?_
            exact o_loc [(0, .ref 0), (1, .int (o_I (M 0 1))), (2, .int (o_I (q))), (3, .int (o_I ((k : Int)))), (4, .int (o_I ((i9 : Int)))), (5, .int (o_I (-1)))] rfl (J_162 (-1) (by first | exact Or.inl ⟨by omega, rfl⟩ | exact Or.inr ⟨r9, rfl, hr1, hr5, by omega⟩) g _ _ hx (by omega) (by omega)))
      exact o_loc [(0, .ref 0), (1, .int (o_I (M 0 1))), (2, .int (o_I (q))), (3, .int (o_I (((0 : Nat) : Int))))] rfl (key_133 0 (Nat.zero_le _)  g _ _ hx (by omega) (by omega))
    · skip
      have l1 := bl j (by omega)
      have f5 := o_bcs (0 < M 5 j)
      have f6 := les_cs M j
      have f7 := end_cs M j
      have f8 := n_les hwl (j := j) (by omega)
      have f9 := n_end_R hwl (j := j) (by omega)
      have we := hwe j (by omega)
      have ek := hek j (by omega)
      have fw := o_bcs (M 8 j = 1)
      refine o_aload_n dL_lamps_14 rfl ?_
      refine o_iload_n dL_lamps_15 rfl ?_
      refine y_q _ (cl_isLeased hl d g M P S T hx hwf j (by omega)) dL_lamps_16 ml_L_237 ys_L_isLeased rfl (by decide) (by omega) (by omega) (by omega) rfl (Nat.le_of_ble_eq_true rfl) (fun g hx => ?_)
      refine o_iconst dL_lamps_19 ?_
      refine o_icmp_ne (tgt := 27) dL_lamps_20 (by decide) ⟨by omega, by omega⟩ ⟨by omega, by omega⟩ (fun c_20 => ?_) (fun c_20 => ?_)
      · skip
        refine o_iconst dL_lamps_27 ?_
        refine o_istore dL_lamps_28 (by decide) ?_
        refine o_iload_n dL_lamps_30 rfl ?_
        refine o_iload dL_lamps_31 rfl ?_
        refine o_if_eq (tgt := 40) dL_lamps_33 (by decide) ⟨by omega, by omega⟩ (fun c_33 => ?_) (fun c_33 => absurd (by omega) c_33)
        refine o_iconst dL_lamps_40 ?_
        refine o_iadd dL_lamps_41 ?_
        refine o_istore_n dL_lamps_42 (by decide) ?_
        refine o_iload dL_lamps_43 rfl ?_
        refine o_aload_n dL_lamps_45 rfl ?_
        refine o_iload_n dL_lamps_46 rfl ?_
        refine y_q _ (cl_lessee hl d g M P S T hx hwf j (by omega)) dL_lamps_47 ml_L_201 ys_L_lessee rfl (by decide) (by omega) (by omega) (by omega) rfl (Nat.le_of_ble_eq_true rfl) (fun g hx => ?_)
        refine o_if_lt (tgt := 57) dL_lamps_50 (by decide) ⟨by omega, by omega⟩ (fun c_50 => ?_) (fun c_50 => absurd (by omega) c_50)
        refine o_iconst dL_lamps_57 ?_
        refine o_icmp_ne (tgt := 123) dL_lamps_58 (by decide) ⟨by omega, by omega⟩ ⟨by omega, by omega⟩ (fun c_58 => absurd (by omega) c_58) (fun c_58 => ?_)
        refine o_iload dL_lamps_61 rfl ?_
        refine o_aload_n dL_lamps_63 rfl ?_
        refine o_iload_n dL_lamps_64 rfl ?_
        refine y_q _ (cl_end hl d g M P S T hx hwf j (by omega)) dL_lamps_65 ml_L_231 ys_L_end rfl (by decide) (by omega) (by omega) (by omega) rfl (Nat.le_of_ble_eq_true rfl) (fun g hx => ?_)
        refine o_aload_n dL_lamps_68 rfl ?_
        refine y_v _ (cv_hour hl d g M P S T hx hwf) dL_lamps_69 ml_L_234 yw_X11_hour rfl (by decide) (by omega) (by omega) (by omega) (by decide) rfl rfl rfl (Nat.le_of_ble_eq_true rfl) (fun g hx => ?_)
        refine o_icmp_le (tgt := 79) dL_lamps_72 (by decide) ⟨by omega, by omega⟩ ⟨by omega, by omega⟩ (fun c_72 => ?_) (fun c_72 => absurd (by omega) c_72)
        refine o_iconst dL_lamps_79 ?_
        refine o_icmp_ne (tgt := 123) dL_lamps_80 (by decide) ⟨by omega, by omega⟩ ⟨by omega, by omega⟩ (fun c_80 => absurd (by omega) c_80) (fun c_80 => ?_)
        refine o_iload dL_lamps_83 rfl ?_
        refine o_if_ne (tgt := 98) dL_lamps_85 (by decide) ⟨by omega, by omega⟩ (fun c_85 => absurd (by omega) c_85) (fun c_85 => ?_)
        refine o_aload_n dL_lamps_88 rfl ?_
        refine o_iload_n dL_lamps_89 rfl ?_
        refine y_q _ (cl_end hl d g M P S T hx hwf j (by omega)) dL_lamps_90 ml_L_231 ys_L_end rfl (by decide) (by omega) (by omega) (by omega) rfl (Nat.le_of_ble_eq_true rfl) (fun g hx => ?_)
        refine o_bipush dL_lamps_93 (by decide) ?_
        refine o_icmp_ne (tgt := 123) dL_lamps_95 (by decide) ⟨by omega, by omega⟩ ⟨by omega, by omega⟩ (fun c_95 => absurd (by omega) c_95) (fun c_95 => ?_)
        refine o_aload_n dL_lamps_98 rfl ?_
        refine o_iload_n dL_lamps_99 rfl ?_
        refine y_q _ (cl_bright hl d g M P S T hx hwf j (by omega)) dL_lamps_100 ml_L_265 ys_L_bright rfl (by decide) (by omega) (by omega) (by omega) rfl (Nat.le_of_ble_eq_true rfl) (fun g hx => ?_)
        refine o_aload_n dL_lamps_103 rfl ?_
        refine o_iload_n dL_lamps_104 rfl ?_
        refine y_q _ (cl_was hl d g M P S T hx hwf j (by omega)) dL_lamps_105 ml_L_268 ys_L_was rfl (by decide) (by omega) (by omega) (by omega) rfl (Nat.le_of_ble_eq_true rfl) (fun g hx => ?_)
        refine o_icmp_lt (tgt := 123) dL_lamps_108 (by decide) ⟨by omega, by omega⟩ ⟨by omega, by omega⟩ (fun c_108 => absurd c_108 (by omega)) (fun c_108 => ?_)
        refine o_aload_n dL_lamps_111 rfl ?_
        refine o_iload_n dL_lamps_112 rfl ?_
        refine y_q _ (cl_bright hl d g M P S T hx hwf j (by omega)) dL_lamps_113 ml_L_265 ys_L_bright rfl (by decide) (by omega) (by omega) (by omega) rfl (Nat.le_of_ble_eq_true rfl) (fun g hx => ?_)
        refine o_aload_n dL_lamps_116 rfl ?_
        refine y_v _ (cv_hour hl d g M P S T hx hwf) dL_lamps_117 ml_L_234 yw_X11_hour rfl (by decide) (by omega) (by omega) (by omega) (by decide) rfl rfl rfl (Nat.le_of_ble_eq_true rfl) (fun g hx => ?_)
        refine o_icmp_le (tgt := 125) dL_lamps_120 (by decide) ⟨by omega, by omega⟩ ⟨by omega, by omega⟩ (fun c_120 => ?_) (fun c_120 => absurd (by omega) c_120)
        refine o_iinc dL_lamps_125 rfl (by decide) ?_
        refine o_goto (tgt := 9) dL_lamps_128 (by decide) ?_
        exact o_loc [(0, .ref 0), (1, .int (o_I (M 0 1))), (2, .int (o_I ((q) + (0)))), (3, .int (o_I (((j + 1 : Nat) : Int))))] rfl (ih_9 (by omega) ((q) + (0)) (by simp only [o_sm]; omega) g _ _ hx (by omega) (by omega))
      · skip
        refine o_iconst dL_lamps_23 ?_
        refine o_goto (tgt := 28) dL_lamps_24 (by decide) ?_
        refine o_istore dL_lamps_28 (by decide) ?_
        refine o_iload_n dL_lamps_30 rfl ?_
        refine o_iload dL_lamps_31 rfl ?_
        refine o_if_eq (tgt := 40) dL_lamps_33 (by decide) ⟨by omega, by omega⟩ (fun c_33 => absurd c_33 (by omega)) (fun c_33 => ?_)
        refine o_iconst dL_lamps_36 ?_
        refine o_goto (tgt := 41) dL_lamps_37 (by decide) ?_
        refine o_iadd dL_lamps_41 ?_
        refine o_istore_n dL_lamps_42 (by decide) ?_
        refine o_iload dL_lamps_43 rfl ?_
        refine o_aload_n dL_lamps_45 rfl ?_
        refine o_iload_n dL_lamps_46 rfl ?_
        refine y_q _ (cl_lessee hl d g M P S T hx hwf j (by omega)) dL_lamps_47 ml_L_201 ys_L_lessee rfl (by decide) (by omega) (by omega) (by omega) rfl (Nat.le_of_ble_eq_true rfl) (fun g hx => ?_)
        refine o_if_lt (tgt := 57) dL_lamps_50 (by decide) ⟨by omega, by omega⟩ (fun c_50 => absurd c_50 (by omega)) (fun c_50 => ?_)
        refine o_iconst dL_lamps_53 ?_
        refine o_goto (tgt := 58) dL_lamps_54 (by decide) ?_
        refine o_icmp_ne (tgt := 123) dL_lamps_58 (by decide) ⟨by omega, by omega⟩ ⟨by omega, by omega⟩ (fun c_58 => absurd (by omega) c_58) (fun c_58 => ?_)
        refine o_iload dL_lamps_61 rfl ?_
        refine o_aload_n dL_lamps_63 rfl ?_
        refine o_iload_n dL_lamps_64 rfl ?_
        refine y_q _ (cl_end hl d g M P S T hx hwf j (by omega)) dL_lamps_65 ml_L_231 ys_L_end rfl (by decide) (by omega) (by omega) (by omega) rfl (Nat.le_of_ble_eq_true rfl) (fun g hx => ?_)
        refine o_aload_n dL_lamps_68 rfl ?_
        refine y_v _ (cv_hour hl d g M P S T hx hwf) dL_lamps_69 ml_L_234 yw_X11_hour rfl (by decide) (by omega) (by omega) (by omega) (by decide) rfl rfl rfl (Nat.le_of_ble_eq_true rfl) (fun g hx => ?_)
        refine o_icmp_le (tgt := 79) dL_lamps_72 (by decide) ⟨by omega, by omega⟩ ⟨by omega, by omega⟩ (fun c_72 => absurd c_72 (by omega)) (fun c_72 => ?_)
        refine o_iconst dL_lamps_75 ?_
        refine o_goto (tgt := 80) dL_lamps_76 (by decide) ?_
        refine o_icmp_ne (tgt := 123) dL_lamps_80 (by decide) ⟨by omega, by omega⟩ ⟨by omega, by omega⟩ (fun c_80 => absurd (by omega) c_80) (fun c_80 => ?_)
        refine o_iload dL_lamps_83 rfl ?_
        refine o_if_ne (tgt := 98) dL_lamps_85 (by decide) ⟨by omega, by omega⟩ (fun c_85 => ?_) (fun c_85 => absurd c_85 (by omega))
        refine o_aload_n dL_lamps_98 rfl ?_
        refine o_iload_n dL_lamps_99 rfl ?_
        refine y_q _ (cl_bright hl d g M P S T hx hwf j (by omega)) dL_lamps_100 ml_L_265 ys_L_bright rfl (by decide) (by omega) (by omega) (by omega) rfl (Nat.le_of_ble_eq_true rfl) (fun g hx => ?_)
        refine o_aload_n dL_lamps_103 rfl ?_
        refine o_iload_n dL_lamps_104 rfl ?_
        refine y_q _ (cl_was hl d g M P S T hx hwf j (by omega)) dL_lamps_105 ml_L_268 ys_L_was rfl (by decide) (by omega) (by omega) (by omega) rfl (Nat.le_of_ble_eq_true rfl) (fun g hx => ?_)
        refine o_icmp_lt (tgt := 123) dL_lamps_108 (by decide) ⟨by omega, by omega⟩ ⟨by omega, by omega⟩ (fun c_108 => absurd c_108 (by omega)) (fun c_108 => ?_)
        refine o_aload_n dL_lamps_111 rfl ?_
        refine o_iload_n dL_lamps_112 rfl ?_
        refine y_q _ (cl_bright hl d g M P S T hx hwf j (by omega)) dL_lamps_113 ml_L_265 ys_L_bright rfl (by decide) (by omega) (by omega) (by omega) rfl (Nat.le_of_ble_eq_true rfl) (fun g hx => ?_)
        refine o_aload_n dL_lamps_116 rfl ?_
        refine y_v _ (cv_hour hl d g M P S T hx hwf) dL_lamps_117 ml_L_234 yw_X11_hour rfl (by decide) (by omega) (by omega) (by omega) (by decide) rfl rfl rfl (Nat.le_of_ble_eq_true rfl) (fun g hx => ?_)
        refine o_icmp_le (tgt := 125) dL_lamps_120 (by decide) ⟨by omega, by omega⟩ ⟨by omega, by omega⟩ (fun c_120 => ?_) (fun c_120 => absurd (by omega) c_120)
        refine o_iinc dL_lamps_125 rfl (by decide) ?_
        refine o_goto (tgt := 9) dL_lamps_128 (by decide) ?_
        exact o_loc [(0, .ref 0), (1, .int (o_I (M 0 1))), (2, .int (o_I ((q) + (1)))), (3, .int (o_I (((j + 1 : Nat) : Int))))] rfl (ih_9 (by omega) ((q) + (1)) (by simp only [o_sm]; omega) g _ _ hx (by omega) (by omega)))
  exact o_loc [(0, .ref 0), (1, .int (o_I (M 0 1))), (2, .int (o_I (0))), (3, .int (o_I (((0 : Nat) : Int))))] rfl (key_9 0 (Nat.zero_le _) (0) (rfl) g _ _ hx (by omega) (by omega))
