/-! the law undoes all that was done -/
def u_one : o_P := fun o _ _ => o = .inl (some (.int (o_I 1)))
/-- the sums: of the states that were left behind last -/
def u_ok (P : List (Nat → Nat → Int)) (f : Nat → Int64) (dn : Nat) : Prop := ∃ P0 Bs : List (Nat → Nat → Int), P = P0 ++ Bs ∧ Bs.length = dn ∧ ∀ (j : Nat) (B : Nat → Nat → Int), Bs[j]? = some B → f j = y_sum B
theorem u_ok0 (P : List (Nat → Nat → Int)) (f : Nat → Int64) : u_ok P f 0 := ⟨P, [], (List.append_nil P).symm, rfl, fun j B hB => by cases hB⟩
theorem u_ok.up {P : List (Nat → Nat → Int)} {f : Nat → Int64} {dn : Nat} (h : u_ok P f dn) (z : Int64) : u_ok P (vp_updL f dn z) dn := by
  obtain ⟨P0, Bs, a, b, c⟩ := h
  refine ⟨P0, Bs, a, b, fun j B hB => ?_⟩
  have hj : j < Bs.length := by
    rcases Nat.lt_or_ge j Bs.length with q | q
    · exact q
    · rw [List.getElem?_eq_none q] at hB; cases hB
  unfold vp_updL
  rw [if_neg (by omega)]
  exact c j B hB
theorem u_ok.push {P : List (Nat → Nat → Int)} {M : Nat → Nat → Int} {f : Nat → Int64} {dn : Nat} (h : u_ok P f dn) (hd : dn ≤ 7) (hP : P.length ≤ 8) (hf : f dn = y_sum M) : u_ok (h_push P M) f (dn + 1) := by
  obtain ⟨P0, Bs, a, b, c⟩ := h
  have key : ∃ Q, (if P.length < 8 then P else P.tail) = Q ++ Bs := by
    by_cases q : P.length < 8
    · exact ⟨P0, by rw [if_pos q]; exact a⟩
    · rw [if_neg q]
      rcases P0 with _ | ⟨B, P0⟩
      · rw [a, List.nil_append] at q; omega
      · exact ⟨P0, by rw [a]; rfl⟩
  obtain ⟨Q, hQ⟩ := key
  refine ⟨Q, Bs ++ [M], by unfold h_push; rw [hQ, List.append_assoc], by rw [List.length_append, b]; rfl, fun j B hB => ?_⟩
  rcases Nat.lt_or_ge j Bs.length with q | q
  · rw [List.getElem?_append_left q] at hB
    exact c j B hB
  · rw [List.getElem?_append_right q] at hB
    rcases e : j - Bs.length with _ | w
    · rw [e] at hB
      cases hB
      rw [show j = dn by omega]
      exact hf
    · rw [e] at hB
      cases hB
theorem u_snoc {α : Type} : ∀ (l : List α), l ≠ [] → ∃ Q B, l = Q ++ [B]
  | [], h => absurd rfl h
  | [x], _ => ⟨[], x, rfl⟩
  | x :: y :: r, _ => by
    obtain ⟨Q, B, e⟩ := u_snoc (y :: r) (fun z => by cases z)
    exact ⟨x :: Q, B, by rw [e]; rfl⟩
theorem u_ok.last {P : List (Nat → Nat → Int)} {f : Nat → Int64} {dn : Nat} (h : u_ok P f (dn + 1)) : ∃ Q B, P = Q ++ [B] ∧ f dn = y_sum B ∧ u_ok Q f dn := by
  obtain ⟨P0, Bs, a, b, c⟩ := h
  have hne : Bs ≠ [] := fun z => by rw [z] at b; cases b
  obtain ⟨R, B, rfl⟩ := u_snoc Bs hne
  have hl : R.length = dn := by rw [List.length_append] at b; exact Nat.succ.inj b
  refine ⟨P0 ++ R, B, by rw [a, List.append_assoc], c dn _ ?_, P0, R, rfl, hl, fun j B hB => c j B ?_⟩
  · rw [List.getElem?_append_right (by omega), hl, Nat.sub_self]
    rfl
  · have hj : j < R.length := by
      rcases Nat.lt_or_ge j R.length with q | q
      · exact q
      · rw [List.getElem?_eq_none q] at hB; cases hB
    rw [List.getElem?_append_left hj]
    exact hB
theorem u_len {g M T : Nat → Nat → Int} {P : List (Nat → Nat → Int)} {S : Option (Nat → Nat → Int)} (h : o_xd g M P S T) : P.length ≤ 8 := by
  obtain ⟨-, ⟨o, -, -, -, q, -⟩, -⟩ := h
  exact q
def un_I (n dn : Nat) (g M : Nat → Nat → Int) (P : List (Nat → Nat → Int)) (S : Option (Nat → Nat → Int)) (T : Nat → Nat → Int) (h : Nat → o_C) (f : Nat → Int64) : Prop := o_xd g M P S T ∧ w_in n M P S T ∧ t_H 193 g h ∧ h 192 = .inl (4, 9, .inr (.inl f)) ∧ u_ok P f dn
theorem y_lng {z : Int64} : ∀ k : Nat, Value.long z = .ref k → k < 192 ∨ 1000000 ≤ k := fun _ z => by cases z
/-- from 197 cells or so back to 193 -/
theorem u_F.cut {N n : Nat} {h h9 h' : Nat → o_C} {M g' M' T' : Nat → Nat → Int} {P P' : List (Nat → Nat → Int)} {S : Option (Nat → Nat → Int)} {X : Int → (Nat → Nat → Int) → Prop} {z : Int} {f : Nat → Int64} (u : u_F N h9 n M P S X z g' M' P' T' h') (hN : 193 ≤ N) (e : h9 192 = h 192) (e2 : h 192 = .inl (4, 9, .inr (.inl f))) : u_F 193 h n M P S X z g' M' P' T' h' := by
  have e3 : h' 192 = h 192 := (u.2.2.2.1 192 (Nat.le_refl _) (by omega)).trans e
  refine ⟨u.1, u.2.1, ⟨u.2.2.1.1, fun k h1 h2 => ?_, by decide, by decide⟩, fun k h1 h2 => ?_, u.2.2.2.2⟩
  · rw [show k = 192 by omega, e3, e2]
    exact trivial
  · rw [show k = 192 by omega]
    exact e3
section UN
variable {l : Launch} {d n dn i mc ms : Nat} {g M T : Nat → Nat → Int} {P : List (Nat → Nat → Int)} {S : Option (Nat → Nat → Int)} {h : Nat → o_C} {f : Nat → Int64}
set_option maxRecDepth 100000 in
set_option maxHeartbeats 4000000 in
theorem un_352 (hl : l.stackTraces = false) {h' : Nat → o_C} {g' M' T' : Nat → Nat → Int} {P' : List (Nat → Nat → Int)} {z : Int} (hdn : dn ≤ i) (hi : i < 7) (h9 : h 192 = .inl (4, 9, .inr (.inl f))) (hok : u_ok P f dn) (hf : f dn = y_sum M) (hP : P.length ≤ 8) (u : u_F 193 h n M P S (fun _ _ => True) z g' M' P' T' h') (hmc : 110 ≤ mc) (hms : 700 ≤ ms)
    (K : ∀ (g' M' : Nat → Nat → Int) (P' : List (Nat → Nat → Int)) (T' : Nat → Nat → Int) (h' : Nat → o_C) (dn' mc9 ms9 : Nat), un_I (n + 1) dn' g' M' P' S T' h' f → dn' ≤ i + 1 → mc ≤ mc9 + 110 → ms ≤ ms9 + 700 → o_V l mL_undone (d + 14) t_al u_one 10 [(0, .ref 5000000), (1, .ref 0), (2, .ref 192), (3, .int (o_I (dn' : Int))), (4, .int (o_I ((i + 1 : Nat) : Int)))] [] 193 h' mc9 ms9) : o_V l mL_undone (d + 14) t_al u_one 352 [(0, .ref 5000000), (1, .ref 0), (2, .ref 192), (3, .int (o_I (dn : Int))), (4, .int (o_I (i : Int))), (7, .int (o_I z))] [] 193 h' mc ms := by
  obtain ⟨hx, hw, hH, he, hz, hr, -⟩ := u
  have e192 := (he 192 (Nat.le_refl _) (by decide)).trans h9
  refine o_iload dL_undone_352 rfl ?_
  rcases hr with ⟨q1, rfl, rfl⟩ | ⟨q1, rfl⟩
  · refine o_if_ge (tgt := 370) dL_undone_354 (by decide) ⟨by omega, by omega⟩ (fun c => absurd c (by omega)) (fun c => ?_)
    refine o_aload_n dL_undone_357 rfl ?_
    refine tx_s [.ref 0] (ct_L_sum hl 0 g' M' P' S T' hx hw.1.1) hH y_lng dL_undone_358 ml_L_347 ys_L_sum rfl (by decide) (by omega) (by omega) (by omega) rfl (Nat.le_of_ble_eq_true rfl) (fun g2 h2 hx2 hH2 he2 => ?_)
    have e2 := (he2 192 (Nat.le_refl _)).trans e192
    refine o_aload_n dL_undone_361 rfl ?_
    refine o_iload_n dL_undone_362 rfl ?_
    refine o_lald dL_undone_363 (by decide) e2 (by decide) (by omega) (by omega) ?_
    rw [Int.toNat_natCast, hf]
    refine o_lcmp dL_undone_364 ?_
    rw [lc_self]
    refine o_if_eq (tgt := 370) dL_undone_365 (by decide) ⟨by omega, by omega⟩ (fun c => ?_) (fun c => absurd rfl c)
    refine o_iload_n dL_undone_370 rfl ?_
    refine o_iload dL_undone_371 rfl ?_
    refine o_if_ge (tgt := 380) dL_undone_373 (by decide) ⟨by omega, by omega⟩ (fun c => absurd c (by omega)) (fun c => ?_)
    refine o_iconst dL_undone_376 ?_
    refine o_goto (tgt := 381) dL_undone_377 (by decide) ?_
    refine o_iadd dL_undone_381 ?_
    rw [show ((dn : Int) + 0) = (dn : Int) by omega]
    refine o_istore_n dL_undone_382 (by decide) ?_
    refine o_iinc dL_undone_383 rfl (by decide) ?_
    refine o_goto (tgt := 10) dL_undone_386 (by decide) ?_
    exact o_loc [(0, .ref 5000000), (1, .ref 0), (2, .ref 192), (3, .int (o_I (dn : Int))), (4, .int (o_I ((i + 1 : Nat) : Int)))] rfl (K g2 M' P' T' h2 dn _ _ ⟨hx2, hw, hH2, e2, hok⟩ (by omega) (by omega) (by omega))
  · refine o_if_ge (tgt := 370) dL_undone_354 (by decide) ⟨by omega, by omega⟩ (fun c => ?_) (fun c => absurd q1 c)
    refine o_iload_n dL_undone_370 rfl ?_
    refine o_iload dL_undone_371 rfl ?_
    refine o_if_ge (tgt := 380) dL_undone_373 (by decide) ⟨by omega, by omega⟩ (fun c => ?_) (fun c => absurd q1 c)
    refine o_iconst dL_undone_380 ?_
    refine o_iadd dL_undone_381 ?_
    rw [show ((dn : Int) + 1) = ((dn + 1 : Nat) : Int) by omega]
    refine o_istore_n dL_undone_382 (by decide) ?_
    refine o_iinc dL_undone_383 rfl (by decide) ?_
    refine o_goto (tgt := 10) dL_undone_386 (by decide) ?_
    exact o_loc [(0, .ref 5000000), (1, .ref 0), (2, .ref 192), (3, .int (o_I ((dn + 1 : Nat) : Int))), (4, .int (o_I ((i + 1 : Nat) : Int)))] rfl (K g' M' _ T' h' (dn + 1) _ _ ⟨hx, hw, hH, e192, hok.push (by omega) hP hf⟩ (by omega) (by omega) (by omega))
set_option maxRecDepth 100000 in
set_option maxHeartbeats 4000000 in
theorem un_undo (hl : l.stackTraces = false) : ∀ (dn : Nat) (n mc ms : Nat) (g M : Nat → Nat → Int) (P : List (Nat → Nat → Int)) (T : Nat → Nat → Int) (h : Nat → o_C), dn ≤ 7 → o_xd g M P S T → o_wf M → (∀ B ∈ P, w_ok n B) → t_H 193 g h → h 192 = .inl (4, 9, .inr (.inl f)) → u_ok P f dn → 110 * dn ≤ mc → 700 * dn ≤ ms → o_V l mL_undone (d + 14) t_al u_one 400 [(1, .ref 0), (2, .ref 192), (4, .int (o_I (P.length : Int))), (5, .int (o_I ((dn : Int) - 1)))] [] 193 h mc ms := by
  intro dn
  induction dn with
  | zero =>
    intro n mc ms g M P T h h7 hx hwf hB hH e192 hok hmc hms
    refine o_iload dL_undone_400 rfl ?_
    refine o_if_lt (tgt := 437) dL_undone_402 (by decide) ⟨by omega, by omega⟩ (fun c => ?_) (fun c => absurd (by omega) c)
    refine o_iconst dL_undone_437 ?_
    exact o_ret1 dL_undone_438 t_r1 rfl
  | succ dn ih =>
    intro n mc ms g M P T h h7 hx hwf hB hH e192 hok hmc hms
    obtain ⟨Q, B, rfl, hf, hok2⟩ := hok.last
    have hlen := u_len hx
    rw [List.length_append] at hlen ⊢
    have hlen : Q.length + 1 ≤ 8 := hlen
    have hwB : w_ok n B := hB B (List.mem_append_right _ List.mem_cons_self)
    refine o_iload dL_undone_400 rfl ?_
    refine o_if_lt (tgt := 437) dL_undone_402 (by decide) ⟨by omega, by omega⟩ (fun c => absurd c (by omega)) (fun c => ?_)
    refine o_iinc dL_undone_405 rfl (by decide) ?_
    refine o_loc [(1, .ref 0), (2, .ref 192), (4, .int (o_I (Q.length : Int))), (5, .int (o_I ((dn : Int))))] (by
      show [some (Value.ref 0), some (Value.ref 192), some (Value.int (o_I (((Q.length + [B].length : Nat) : Int) + -1))), some (Value.int (o_I (((dn + 1 : Nat) : Int) - 1)))] = _
      rw [show (((Q.length + [B].length : Nat) : Int) + -1) = (Q.length : Int) from by rw [List.length_singleton]; omega, show (((dn + 1 : Nat) : Int) - 1) = (dn : Int) by omega]
      rfl) ?_
    refine o_aload_n dL_undone_408 rfl ?_
    refine tx_q [.ref 0] (ct_L_undo hl 4 g _ _ S _ _ _ (o_Ct.wk (ct_X11_undoY hl 0 g M Q B S T hx hwf hwB.1.1) (x_es _))) hH y_int dL_undone_409 ml_L_370 ys_L_undo rfl (by decide) (by omega) (by omega) (by omega) rfl (Nat.le_of_ble_eq_true rfl) (fun g2 h2 hx2 hH2 he2 => ?_)
    rw [show h_c 0 (Q.length : Int) [-1] = (Q.length : Int) from rfl]
    refine o_iload dL_undone_412 rfl ?_
    refine o_icmp_ne (tgt := 429) dL_undone_414 (by decide) ⟨by omega, by omega⟩ ⟨by omega, by omega⟩ (fun c => absurd rfl c) (fun c => ?_)
    refine o_aload_n dL_undone_417 rfl ?_
    refine tx_s [.ref 0] (ct_L_sum hl 0 g2 B Q S T hx2 hwB.1) hH2 y_lng dL_undone_418 ml_L_347 ys_L_sum rfl (by decide) (by omega) (by omega) (by omega) rfl (Nat.le_of_ble_eq_true rfl) (fun g3 h3 hx3 hH3 he3 => ?_)
    have e3 := ((he3 192 (Nat.le_refl _)).trans (he2 192 (Nat.le_refl _))).trans e192
    refine o_aload_n dL_undone_421 rfl ?_
    refine o_iload dL_undone_422 rfl ?_
    refine o_lald dL_undone_424 (by decide) e3 (by decide) (by omega) (by omega) ?_
    rw [Int.toNat_natCast, hf]
    refine o_lcmp dL_undone_425 ?_
    rw [lc_self]
    refine o_if_eq (tgt := 431) dL_undone_426 (by decide) ⟨by omega, by omega⟩ (fun c => ?_) (fun c => absurd rfl c)
    refine o_iinc dL_undone_431 rfl (by decide) ?_
    refine o_goto (tgt := 400) dL_undone_434 (by decide) ?_
    exact o_loc [(1, .ref 0), (2, .ref 192), (4, .int (o_I (Q.length : Int))), (5, .int (o_I ((dn : Int) - 1)))] rfl (ih n _ _ g3 B Q T h3 (by omega) hx3 hwB.1 (fun C hC => hB C (List.mem_append_left _ hC)) hH3 e3 hok2 (by omega) (by omega))
set_option maxRecDepth 100000 in
set_option maxHeartbeats 4000000 in
theorem un_a0 (hl : l.stackTraces = false) (hx : o_xd g M P S T) (hw : w_in n M P S T) (hn : n ≤ 512) (hH : t_H 193 g h) {c e : Int} (hc : 0 ≤ c ∧ c ≤ 2147483647) (he : 0 ≤ e ∧ e ≤ 2147483647) (hmc : 200 ≤ mc) (hms : 4000 ≤ ms) (J : ∀ (z : Int) (g' M' : Nat → Nat → Int) (P' : List (Nat → Nat → Int)) (T' : Nat → Nat → Int) (h' : Nat → o_C) (mc9 ms9 : Nat), u_F 193 h n M P S (fun _ _ => True) z g' M' P' T' h' → mc ≤ mc9 + 200 → ms ≤ ms9 + 4000 → o_V l mL_undone (d + 14) t_al u_one 352 [(0, .ref 5000000), (1, .ref 0), (2, .ref 192), (3, .int (o_I (dn : Int))), (4, .int (o_I (i : Int))), (7, .int (o_I z))] [] 193 h' mc9 ms9) : o_V l mL_undone (d + 14) t_al u_one 96 [(0, .ref 5000000), (1, .ref 0), (2, .ref 192), (3, .int (o_I (dn : Int))), (4, .int (o_I (i : Int))), (5, .int (o_I c)), (6, .int (o_I e))] [] 193 h mc ms := by
  refine o_iload dL_undone_96 rfl ?_
  refine o_iconst dL_undone_98 ?_
  refine o_irem dL_undone_99 ⟨by omega, by omega⟩ ⟨by omega, by omega⟩ (by omega) (by omega) ?_
  refine o_if_ne (tgt := 110) dL_undone_100 (by decide) ⟨by omega, by omega⟩ (fun c9 => ?_) (fun c9 => ?_)
  · skip
    refine o_aload_n dL_undone_110 rfl ?_
    refine o_iload dL_undone_111 rfl ?_
    refine o_iconst dL_undone_113 ?_
    refine y_iushr (by omega) (by omega) dL_undone_114 (fun w w0 w1 => ?_)
    refine o_iconst dL_undone_115 ?_
    refine o_irem dL_undone_116 ⟨by omega, by omega⟩ ⟨by omega, by omega⟩ (by omega) (by omega) ?_
    refine u_q [.ref 0, .int (o_I (w % 5))] (cu_addLamp hl 0 193 n g M P S T h hx hw hn hH (w % 5) ⟨by omega, by omega⟩) dL_undone_117 ml_L_151 ys_L_addLamp rfl (by decide) (by omega) (by omega) (by omega) rfl (Nat.le_of_ble_eq_true rfl) (fun z g2 M2 P2 T2 h2 u2 => ?_)
    refine o_istore dL_undone_120 (by decide) ?_
    refine o_goto (tgt := 352) dL_undone_122 (by decide) ?_
    exact o_loc [(0, .ref 5000000), (1, .ref 0), (2, .ref 192), (3, .int (o_I (dn : Int))), (4, .int (o_I (i : Int))), (7, .int (o_I z))] rfl (J z g2 M2 P2 T2 h2 _ _ (u2.x fun _ => trivial) (by omega) (by omega))
  · skip
    refine o_aload_n dL_undone_103 rfl ?_
    refine u_q [.ref 0] (cu_addShip hl 0 193 n g M P S T h hx hw hn hH) dL_undone_104 ml_L_149 ys_L_addShip rfl (by decide) (by omega) (by omega) (by omega) rfl (Nat.le_of_ble_eq_true rfl) (fun z g2 M2 P2 T2 h2 u2 => ?_)
    refine o_goto (tgt := 120) dL_undone_107 (by decide) ?_
    refine o_istore dL_undone_120 (by decide) ?_
    refine o_goto (tgt := 352) dL_undone_122 (by decide) ?_
    exact o_loc [(0, .ref 5000000), (1, .ref 0), (2, .ref 192), (3, .int (o_I (dn : Int))), (4, .int (o_I (i : Int))), (7, .int (o_I z))] rfl (J z g2 M2 P2 T2 h2 _ _ (u2.x fun _ => trivial) (by omega) (by omega))
set_option maxRecDepth 100000 in
set_option maxHeartbeats 4000000 in
theorem un_a1 (hl : l.stackTraces = false) (hx : o_xd g M P S T) (hw : w_in n M P S T) (hn : n ≤ 512) (hH : t_H 193 g h) {c e : Int} (hc : 0 ≤ c ∧ c ≤ 2147483647) (he : 0 ≤ e ∧ e ≤ 2147483647) (hmc : 200 ≤ mc) (hms : 4000 ≤ ms) (J : ∀ (z : Int) (g' M' : Nat → Nat → Int) (P' : List (Nat → Nat → Int)) (T' : Nat → Nat → Int) (h' : Nat → o_C) (mc9 ms9 : Nat), u_F 193 h n M P S (fun _ _ => True) z g' M' P' T' h' → mc ≤ mc9 + 200 → ms ≤ ms9 + 4000 → o_V l mL_undone (d + 14) t_al u_one 352 [(0, .ref 5000000), (1, .ref 0), (2, .ref 192), (3, .int (o_I (dn : Int))), (4, .int (o_I (i : Int))), (7, .int (o_I z))] [] 193 h' mc9 ms9) : o_V l mL_undone (d + 14) t_al u_one 125 [(0, .ref 5000000), (1, .ref 0), (2, .ref 192), (3, .int (o_I (dn : Int))), (4, .int (o_I (i : Int))), (5, .int (o_I c)), (6, .int (o_I e))] [] 193 h mc ms := by
  refine o_aload_n dL_undone_125 rfl ?_
  refine o_iload dL_undone_126 rfl ?_
  refine o_sipush dL_undone_128 (by decide) ?_
  refine o_irem dL_undone_131 ⟨by omega, by omega⟩ ⟨by omega, by omega⟩ (by omega) (by omega) ?_
  refine u_q [.ref 0, .int (o_I (e % 202))] (cu_addOil hl 0 193 n g M P S T h hx hw hn hH (e % 202) ⟨by omega, by omega⟩) dL_undone_132 ml_L_154 ys_L_addOil rfl (by decide) (by omega) (by omega) (by omega) rfl (Nat.le_of_ble_eq_true rfl) (fun z g2 M2 P2 T2 h2 u2 => ?_)
  refine o_istore dL_undone_135 (by decide) ?_
  refine o_goto (tgt := 352) dL_undone_137 (by decide) ?_
  exact o_loc [(0, .ref 5000000), (1, .ref 0), (2, .ref 192), (3, .int (o_I (dn : Int))), (4, .int (o_I (i : Int))), (7, .int (o_I z))] rfl (J z g2 M2 P2 T2 h2 _ _ (u2.x fun _ => trivial) (by omega) (by omega))
set_option maxRecDepth 100000 in
set_option maxHeartbeats 4000000 in
theorem un_a2 (hl : l.stackTraces = false) (hx : o_xd g M P S T) (hw : w_in n M P S T) (hn : n ≤ 512) (hH : t_H 193 g h) {c e : Int} (hc : 0 ≤ c ∧ c ≤ 2147483647) (he : 0 ≤ e ∧ e ≤ 2147483647) (hmc : 200 ≤ mc) (hms : 4000 ≤ ms) (J : ∀ (z : Int) (g' M' : Nat → Nat → Int) (P' : List (Nat → Nat → Int)) (T' : Nat → Nat → Int) (h' : Nat → o_C) (mc9 ms9 : Nat), u_F 193 h n M P S (fun _ _ => True) z g' M' P' T' h' → mc ≤ mc9 + 200 → ms ≤ ms9 + 4000 → o_V l mL_undone (d + 14) t_al u_one 352 [(0, .ref 5000000), (1, .ref 0), (2, .ref 192), (3, .int (o_I (dn : Int))), (4, .int (o_I (i : Int))), (7, .int (o_I z))] [] 193 h' mc9 ms9) : o_V l mL_undone (d + 14) t_al u_one 140 [(0, .ref 5000000), (1, .ref 0), (2, .ref 192), (3, .int (o_I (dn : Int))), (4, .int (o_I (i : Int))), (5, .int (o_I c)), (6, .int (o_I e))] [] 193 h mc ms := by
  refine o_aload_n dL_undone_140 rfl ?_
  refine o_iload dL_undone_141 rfl ?_
  refine o_bipush dL_undone_143 (by decide) ?_
  refine o_irem dL_undone_145 ⟨by omega, by omega⟩ ⟨by omega, by omega⟩ (by omega) (by omega) ?_
  refine o_iload dL_undone_146 rfl ?_
  refine o_iconst dL_undone_148 ?_
  refine y_iushr (by omega) (by omega) dL_undone_149 (fun w w0 w1 => ?_)
  refine o_bipush dL_undone_150 (by decide) ?_
  refine o_irem dL_undone_152 ⟨by omega, by omega⟩ ⟨by omega, by omega⟩ (by omega) (by omega) ?_
  refine o_iload dL_undone_153 rfl ?_
  refine o_bipush dL_undone_155 (by decide) ?_
  refine y_iushr (by omega) (by omega) dL_undone_157 (fun v v0 v1 => ?_)
  refine o_bipush dL_undone_158 (by decide) ?_
  refine o_irem dL_undone_160 ⟨by omega, by omega⟩ ⟨by omega, by omega⟩ (by omega) (by omega) ?_
  refine u_q [.ref 0, .int (o_I (e % 6)), .int (o_I (w % 9)), .int (o_I (v % 26))] (cu_lease hl 0 193 n g M P S T h hx hw hn hH (e % 6) ⟨by omega, by omega⟩ (w % 9) ⟨by omega, by omega⟩ (v % 26) ⟨by omega, by omega⟩) dL_undone_161 ml_L_156 ys_L_lease rfl (by decide) (by omega) (by omega) (by omega) rfl (Nat.le_of_ble_eq_true rfl) (fun z g2 M2 P2 T2 h2 u2 => ?_)
  refine o_istore dL_undone_164 (by decide) ?_
  refine o_goto (tgt := 352) dL_undone_166 (by decide) ?_
  exact o_loc [(0, .ref 5000000), (1, .ref 0), (2, .ref 192), (3, .int (o_I (dn : Int))), (4, .int (o_I (i : Int))), (7, .int (o_I z))] rfl (J z g2 M2 P2 T2 h2 _ _ (u2.x fun _ => trivial) (by omega) (by omega))
set_option maxRecDepth 100000 in
set_option maxHeartbeats 4000000 in
theorem un_a4 (hl : l.stackTraces = false) (hx : o_xd g M P S T) (hw : w_in n M P S T) (hn : n ≤ 512) (hH : t_H 193 g h) {c e : Int} (hc : 0 ≤ c ∧ c ≤ 2147483647) (he : 0 ≤ e ∧ e ≤ 2147483647) (hmc : 200 ≤ mc) (hms : 4000 ≤ ms) (J : ∀ (z : Int) (g' M' : Nat → Nat → Int) (P' : List (Nat → Nat → Int)) (T' : Nat → Nat → Int) (h' : Nat → o_C) (mc9 ms9 : Nat), u_F 193 h n M P S (fun _ _ => True) z g' M' P' T' h' → mc ≤ mc9 + 200 → ms ≤ ms9 + 4000 → o_V l mL_undone (d + 14) t_al u_one 352 [(0, .ref 5000000), (1, .ref 0), (2, .ref 192), (3, .int (o_I (dn : Int))), (4, .int (o_I (i : Int))), (7, .int (o_I z))] [] 193 h' mc9 ms9) : o_V l mL_undone (d + 14) t_al u_one 169 [(0, .ref 5000000), (1, .ref 0), (2, .ref 192), (3, .int (o_I (dn : Int))), (4, .int (o_I (i : Int))), (5, .int (o_I c)), (6, .int (o_I e))] [] 193 h mc ms := by
  refine o_aload_n dL_undone_169 rfl ?_
  refine o_iload dL_undone_170 rfl ?_
  refine o_bipush dL_undone_172 (by decide) ?_
  refine o_irem dL_undone_174 ⟨by omega, by omega⟩ ⟨by omega, by omega⟩ (by omega) (by omega) ?_
  refine o_iload dL_undone_175 rfl ?_
  refine o_iconst dL_undone_177 ?_
  refine y_iushr (by omega) (by omega) dL_undone_178 (fun w w0 w1 => ?_)
  refine o_bipush dL_undone_179 (by decide) ?_
  refine o_irem dL_undone_181 ⟨by omega, by omega⟩ ⟨by omega, by omega⟩ (by omega) (by omega) ?_
  refine u_q [.ref 0, .int (o_I (e % 9)), .int (o_I (w % 26))] (cu_renew hl 0 193 n g M P S T h hx hw hn hH (e % 9) ⟨by omega, by omega⟩ (w % 26) ⟨by omega, by omega⟩) dL_undone_182 ml_L_159 ys_L_renew rfl (by decide) (by omega) (by omega) (by omega) rfl (Nat.le_of_ble_eq_true rfl) (fun z g2 M2 P2 T2 h2 u2 => ?_)
  refine o_istore dL_undone_185 (by decide) ?_
  refine o_goto (tgt := 352) dL_undone_187 (by decide) ?_
  exact o_loc [(0, .ref 5000000), (1, .ref 0), (2, .ref 192), (3, .int (o_I (dn : Int))), (4, .int (o_I (i : Int))), (7, .int (o_I z))] rfl (J z g2 M2 P2 T2 h2 _ _ (u2.x fun _ => trivial) (by omega) (by omega))
set_option maxRecDepth 100000 in
set_option maxHeartbeats 4000000 in
theorem un_a5 (hl : l.stackTraces = false) (hx : o_xd g M P S T) (hw : w_in n M P S T) (hn : n ≤ 512) (hH : t_H 193 g h) {c e : Int} (hc : 0 ≤ c ∧ c ≤ 2147483647) (he : 0 ≤ e ∧ e ≤ 2147483647) (hmc : 200 ≤ mc) (hms : 4000 ≤ ms) (J : ∀ (z : Int) (g' M' : Nat → Nat → Int) (P' : List (Nat → Nat → Int)) (T' : Nat → Nat → Int) (h' : Nat → o_C) (mc9 ms9 : Nat), u_F 193 h n M P S (fun _ _ => True) z g' M' P' T' h' → mc ≤ mc9 + 200 → ms ≤ ms9 + 4000 → o_V l mL_undone (d + 14) t_al u_one 352 [(0, .ref 5000000), (1, .ref 0), (2, .ref 192), (3, .int (o_I (dn : Int))), (4, .int (o_I (i : Int))), (7, .int (o_I z))] [] 193 h' mc9 ms9) : o_V l mL_undone (d + 14) t_al u_one 190 [(0, .ref 5000000), (1, .ref 0), (2, .ref 192), (3, .int (o_I (dn : Int))), (4, .int (o_I (i : Int))), (5, .int (o_I c)), (6, .int (o_I e))] [] 193 h mc ms := by
  refine o_aload_n dL_undone_190 rfl ?_
  refine o_iload dL_undone_191 rfl ?_
  refine o_bipush dL_undone_193 (by decide) ?_
  refine o_irem dL_undone_195 ⟨by omega, by omega⟩ ⟨by omega, by omega⟩ (by omega) (by omega) ?_
  refine u_q [.ref 0, .int (o_I (e % 9))] (cu_giveUp hl 0 193 n g M P S T h hx hw hn hH (e % 9) ⟨by omega, by omega⟩) dL_undone_196 ml_L_166 ys_L_giveUp rfl (by decide) (by omega) (by omega) (by omega) rfl (Nat.le_of_ble_eq_true rfl) (fun z g2 M2 P2 T2 h2 u2 => ?_)
  refine o_istore dL_undone_199 (by decide) ?_
  refine o_goto (tgt := 352) dL_undone_201 (by decide) ?_
  exact o_loc [(0, .ref 5000000), (1, .ref 0), (2, .ref 192), (3, .int (o_I (dn : Int))), (4, .int (o_I (i : Int))), (7, .int (o_I z))] rfl (J z g2 M2 P2 T2 h2 _ _ (u2.x fun _ => trivial) (by omega) (by omega))
set_option maxRecDepth 100000 in
set_option maxHeartbeats 4000000 in
theorem un_a6 (hl : l.stackTraces = false) (hx : o_xd g M P S T) (hw : w_in n M P S T) (hn : n ≤ 512) (hH : t_H 193 g h) {c e : Int} (hc : 0 ≤ c ∧ c ≤ 2147483647) (he : 0 ≤ e ∧ e ≤ 2147483647) (hmc : 200 ≤ mc) (hms : 4000 ≤ ms) (J : ∀ (z : Int) (g' M' : Nat → Nat → Int) (P' : List (Nat → Nat → Int)) (T' : Nat → Nat → Int) (h' : Nat → o_C) (mc9 ms9 : Nat), u_F 193 h n M P S (fun _ _ => True) z g' M' P' T' h' → mc ≤ mc9 + 200 → ms ≤ ms9 + 4000 → o_V l mL_undone (d + 14) t_al u_one 352 [(0, .ref 5000000), (1, .ref 0), (2, .ref 192), (3, .int (o_I (dn : Int))), (4, .int (o_I (i : Int))), (7, .int (o_I z))] [] 193 h' mc9 ms9) : o_V l mL_undone (d + 14) t_al u_one 204 [(0, .ref 5000000), (1, .ref 0), (2, .ref 192), (3, .int (o_I (dn : Int))), (4, .int (o_I (i : Int))), (5, .int (o_I c)), (6, .int (o_I e))] [] 193 h mc ms := by
  refine o_aload_n dL_undone_204 rfl ?_
  refine o_iload dL_undone_205 rfl ?_
  refine o_bipush dL_undone_207 (by decide) ?_
  refine o_irem dL_undone_209 ⟨by omega, by omega⟩ ⟨by omega, by omega⟩ (by omega) (by omega) ?_
  refine u_q [.ref 0, .int (o_I (e % 50))] (cu_pass hl 0 193 n g M P S T h hx hw hn hH (e % 50) ⟨by omega, by omega⟩) dL_undone_210 ml_L_163 ys_L_pass rfl (by decide) (by omega) (by omega) (by omega) rfl (Nat.le_of_ble_eq_true rfl) (fun z g2 M2 P2 T2 h2 u2 => ?_)
  refine o_istore dL_undone_213 (by decide) ?_
  refine o_goto (tgt := 352) dL_undone_215 (by decide) ?_
  exact o_loc [(0, .ref 5000000), (1, .ref 0), (2, .ref 192), (3, .int (o_I (dn : Int))), (4, .int (o_I (i : Int))), (7, .int (o_I z))] rfl (J z g2 M2 P2 T2 h2 _ _ (u2.x fun _ => trivial) (by omega) (by omega))
set_option maxRecDepth 100000 in
set_option maxHeartbeats 4000000 in
theorem un_a7 (hl : l.stackTraces = false) (hx : o_xd g M P S T) (hw : w_in n M P S T) (hn : n ≤ 512) (hH : t_H 193 g h) (h192 : h 192 = .inl (4, 9, .inr (.inl f))) {c e : Int} (hc : 0 ≤ c ∧ c ≤ 2147483647) (he : 0 ≤ e ∧ e ≤ 2147483647) (hmc : 200 ≤ mc) (hms : 4000 ≤ ms) (J : ∀ (z : Int) (g' M' : Nat → Nat → Int) (P' : List (Nat → Nat → Int)) (T' : Nat → Nat → Int) (h' : Nat → o_C) (mc9 ms9 : Nat), u_F 193 h n M P S (fun _ _ => True) z g' M' P' T' h' → mc ≤ mc9 + 200 → ms ≤ ms9 + 4000 → o_V l mL_undone (d + 14) t_al u_one 352 [(0, .ref 5000000), (1, .ref 0), (2, .ref 192), (3, .int (o_I (dn : Int))), (4, .int (o_I (i : Int))), (7, .int (o_I z))] [] 193 h' mc9 ms9) : o_V l mL_undone (d + 14) t_al u_one 218 [(0, .ref 5000000), (1, .ref 0), (2, .ref 192), (3, .int (o_I (dn : Int))), (4, .int (o_I (i : Int))), (5, .int (o_I c)), (6, .int (o_I e))] [] 193 h mc ms := by
  refine o_aload_n dL_undone_218 rfl ?_
  refine tx_new hl hH (by omega) (fun k h1 h2 => ⟨by omega, h2⟩) dL_undone_219 t_w295 dL_undone_222 dL_undone_223 ml_L_297 (fun q hq (z : Nat) hz => by simp only [List.mem_cons, List.not_mem_nil, or_false] at hq; rcases hq with rfl | rfl | rfl | rfl | rfl | rfl | rfl <;> (cases hz; try omega)) (fun v hv (z : Nat) hz => by rcases List.mem_singleton.mp hv with rfl; cases hz; omega) (Nat.le_of_ble_eq_true rfl) (by omega) (by omega) (by omega) (fun k1 H1 B1 e1 => ?_)
  have f1 : k1 192 = h 192 := e1 192 (by decide)
  refine o_ldcSW (num := 65) (tx := "oil ") dL_undone_226 t_q351 ?_
  refine tx_app hl H1 B1 t_c65 dL_undone_229 ml_L_298 (by simp only [List.length_append, List.length_cons, List.length_nil] <;> omega) ⟨by omega, by omega⟩ (fun q hq (z : Nat) hz => by simp only [List.mem_cons, List.not_mem_nil, or_false] at hq; rcases hq with rfl | rfl | rfl | rfl | rfl | rfl | rfl <;> (cases hz; try omega)) (fun v hv (z : Nat) hz => by rcases List.mem_singleton.mp hv with rfl; cases hz; omega) (Nat.le_of_ble_eq_true rfl) (by omega) (by omega) (by omega) (fun k2 H2 B2 e2 => ?_)
  have f2 : k2 192 = h 192 := (e2 192 (by decide) (by decide)).trans f1
  refine o_iload dL_undone_232 rfl ?_
  refine o_sipush dL_undone_234 (by decide) ?_
  refine o_irem dL_undone_237 ⟨by omega, by omega⟩ ⟨by omega, by omega⟩ (by omega) (by omega) ?_
  have a3 := t_num_l7 (z := e % 210) (by omega)
  refine tx_num hl H2 B2 ⟨by omega, by omega⟩ dL_undone_238 ml_L_304 (by simp only [List.length_append, List.length_cons, List.length_nil] <;> omega) ⟨by omega, by omega⟩ (fun q hq (z : Nat) hz => by simp only [List.mem_cons, List.not_mem_nil, or_false] at hq; rcases hq with rfl | rfl | rfl | rfl | rfl | rfl | rfl <;> (cases hz; try omega)) (fun v hv (z : Nat) hz => by rcases List.mem_singleton.mp hv with rfl; cases hz; omega) (Nat.le_of_ble_eq_true rfl) (by omega) (by omega) (by omega) (fun k3 H3 B3 e3 => ?_)
  have f3 : k3 192 = h 192 := (e3 192 (by decide) (by decide)).trans f2
  refine o_ldcSW (num := 66) (tx := ";wait;drop ") dL_undone_241 t_q353 ?_
  refine tx_app hl H3 B3 t_c66 dL_undone_244 ml_L_298 (by simp only [List.length_append, List.length_cons, List.length_nil] <;> omega) ⟨by omega, by omega⟩ (fun q hq (z : Nat) hz => by simp only [List.mem_cons, List.not_mem_nil, or_false] at hq; rcases hq with rfl | rfl | rfl | rfl | rfl | rfl | rfl <;> (cases hz; try omega)) (fun v hv (z : Nat) hz => by rcases List.mem_singleton.mp hv with rfl; cases hz; omega) (Nat.le_of_ble_eq_true rfl) (by omega) (by omega) (by omega) (fun k4 H4 B4 e4 => ?_)
  have f4 : k4 192 = h 192 := (e4 192 (by decide) (by decide)).trans f3
  refine o_iload dL_undone_247 rfl ?_
  refine o_bipush dL_undone_249 (by decide) ?_
  refine y_iushr (by omega) (by omega) dL_undone_251 (fun w w0 w1 => ?_)
  refine o_bipush dL_undone_252 (by decide) ?_
  refine o_irem dL_undone_254 ⟨by omega, by omega⟩ ⟨by omega, by omega⟩ (by omega) (by omega) ?_
  have a5 := t_num_l7 (z := w % 9) (by omega)
  refine tx_num hl H4 B4 ⟨by omega, by omega⟩ dL_undone_255 ml_L_304 (by simp only [List.length_append, List.length_cons, List.length_nil] <;> omega) ⟨by omega, by omega⟩ (fun q hq (z : Nat) hz => by simp only [List.mem_cons, List.not_mem_nil, or_false] at hq; rcases hq with rfl | rfl | rfl | rfl | rfl | rfl | rfl <;> (cases hz; try omega)) (fun v hv (z : Nat) hz => by rcases List.mem_singleton.mp hv with rfl; cases hz; omega) (Nat.le_of_ble_eq_true rfl) (by omega) (by omega) (by omega) (fun k5 H5 B5 e5 => ?_)
  have f5 : k5 192 = h 192 := (e5 192 (by decide) (by decide)).trans f4
  refine tx_str hl H5 B5 (by omega) dL_undone_258 ml_L_311 (by simp only [List.length_append, List.length_cons, List.length_nil] <;> omega) (fun k h1 h2 => ⟨by omega, h2⟩) (fun q hq (z : Nat) hz => by simp only [List.mem_cons, List.not_mem_nil, or_false] at hq; rcases hq with rfl | rfl | rfl | rfl | rfl | rfl | rfl <;> (cases hz; try omega)) (fun v hv (z : Nat) hz => by rcases List.mem_singleton.mp hv with rfl; cases hz; omega) (Nat.le_of_ble_eq_true rfl) (by omega) (by omega) (by omega) (fun k6 H6 B6 e6 => ?_)
  have f6 : k6 192 = h 192 := (e6 192 (by decide)).trans f5
  refine u_s [.ref 0, .ref 195] (ct_L_run hl 0 197 n g M P S T k6 hx hw hn H6 195 _ B6) dL_undone_261 ml_L_355 ys_L_run rfl (by decide) (by omega) (by omega) (by omega) rfl (Nat.le_of_ble_eq_true rfl) (fun z g2 M2 P2 T2 h2 u2 => ?_)
  have u2 := u2.cut (h := h) (by decide) f6 h192
  refine o_cut (n := 193) (h' := h2) (by decide) (fun _ _ => rfl) ?_
  refine o_istore dL_undone_264 (by decide) ?_
  refine o_goto (tgt := 352) dL_undone_266 (by decide) ?_
  exact o_loc [(0, .ref 5000000), (1, .ref 0), (2, .ref 192), (3, .int (o_I (dn : Int))), (4, .int (o_I (i : Int))), (7, .int (o_I z))] rfl (J z g2 M2 P2 T2 h2 _ _ (u2.x fun _ => trivial) (by omega) (by omega))
set_option maxRecDepth 100000 in
set_option maxHeartbeats 4000000 in
theorem un_a8 (hl : l.stackTraces = false) (hx : o_xd g M P S T) (hw : w_in n M P S T) (hn : n ≤ 512) (hH : t_H 193 g h) (h192 : h 192 = .inl (4, 9, .inr (.inl f))) {c e : Int} (hc : 0 ≤ c ∧ c ≤ 2147483647) (he : 0 ≤ e ∧ e ≤ 2147483647) (hmc : 200 ≤ mc) (hms : 4000 ≤ ms) (J : ∀ (z : Int) (g' M' : Nat → Nat → Int) (P' : List (Nat → Nat → Int)) (T' : Nat → Nat → Int) (h' : Nat → o_C) (mc9 ms9 : Nat), u_F 193 h n M P S (fun _ _ => True) z g' M' P' T' h' → mc ≤ mc9 + 200 → ms ≤ ms9 + 4000 → o_V l mL_undone (d + 14) t_al u_one 352 [(0, .ref 5000000), (1, .ref 0), (2, .ref 192), (3, .int (o_I (dn : Int))), (4, .int (o_I (i : Int))), (7, .int (o_I z))] [] 193 h' mc9 ms9) : o_V l mL_undone (d + 14) t_al u_one 269 [(0, .ref 5000000), (1, .ref 0), (2, .ref 192), (3, .int (o_I (dn : Int))), (4, .int (o_I (i : Int))), (5, .int (o_I c)), (6, .int (o_I e))] [] 193 h mc ms := by
  refine o_aload_n dL_undone_269 rfl ?_
  refine tx_new hl hH (by omega) (fun k h1 h2 => ⟨by omega, h2⟩) dL_undone_270 t_w295 dL_undone_273 dL_undone_274 ml_L_297 (fun q hq (z : Nat) hz => by simp only [List.mem_cons, List.not_mem_nil, or_false] at hq; rcases hq with rfl | rfl | rfl | rfl | rfl | rfl | rfl <;> (cases hz; try omega)) (fun v hv (z : Nat) hz => by rcases List.mem_singleton.mp hv with rfl; cases hz; omega) (Nat.le_of_ble_eq_true rfl) (by omega) (by omega) (by omega) (fun k1 H1 B1 e1 => ?_)
  have f1 : k1 192 = h 192 := e1 192 (by decide)
  refine o_ldcSW (num := 67) (tx := "wait ") dL_undone_277 t_q359 ?_
  refine tx_app hl H1 B1 t_c67 dL_undone_280 ml_L_298 (by simp only [List.length_append, List.length_cons, List.length_nil] <;> omega) ⟨by omega, by omega⟩ (fun q hq (z : Nat) hz => by simp only [List.mem_cons, List.not_mem_nil, or_false] at hq; rcases hq with rfl | rfl | rfl | rfl | rfl | rfl | rfl <;> (cases hz; try omega)) (fun v hv (z : Nat) hz => by rcases List.mem_singleton.mp hv with rfl; cases hz; omega) (Nat.le_of_ble_eq_true rfl) (by omega) (by omega) (by omega) (fun k2 H2 B2 e2 => ?_)
  have f2 : k2 192 = h 192 := (e2 192 (by decide) (by decide)).trans f1
  refine o_iload dL_undone_283 rfl ?_
  refine o_iconst dL_undone_285 ?_
  refine o_irem dL_undone_286 ⟨by omega, by omega⟩ ⟨by omega, by omega⟩ (by omega) (by omega) ?_
  have a3 := t_num_l7 (z := e % 4) (by omega)
  refine tx_num hl H2 B2 ⟨by omega, by omega⟩ dL_undone_287 ml_L_304 (by simp only [List.length_append, List.length_cons, List.length_nil] <;> omega) ⟨by omega, by omega⟩ (fun q hq (z : Nat) hz => by simp only [List.mem_cons, List.not_mem_nil, or_false] at hq; rcases hq with rfl | rfl | rfl | rfl | rfl | rfl | rfl <;> (cases hz; try omega)) (fun v hv (z : Nat) hz => by rcases List.mem_singleton.mp hv with rfl; cases hz; omega) (Nat.le_of_ble_eq_true rfl) (by omega) (by omega) (by omega) (fun k3 H3 B3 e3 => ?_)
  have f3 : k3 192 = h 192 := (e3 192 (by decide) (by decide)).trans f2
  refine o_ldcSW (num := 68) (tx := ";lease ") dL_undone_290 t_q361 ?_
  refine tx_app hl H3 B3 t_c68 dL_undone_293 ml_L_298 (by simp only [List.length_append, List.length_cons, List.length_nil] <;> omega) ⟨by omega, by omega⟩ (fun q hq (z : Nat) hz => by simp only [List.mem_cons, List.not_mem_nil, or_false] at hq; rcases hq with rfl | rfl | rfl | rfl | rfl | rfl | rfl <;> (cases hz; try omega)) (fun v hv (z : Nat) hz => by rcases List.mem_singleton.mp hv with rfl; cases hz; omega) (Nat.le_of_ble_eq_true rfl) (by omega) (by omega) (by omega) (fun k4 H4 B4 e4 => ?_)
  have f4 : k4 192 = h 192 := (e4 192 (by decide) (by decide)).trans f3
  refine o_iload dL_undone_296 rfl ?_
  refine o_iconst dL_undone_298 ?_
  refine y_iushr (by omega) (by omega) dL_undone_299 (fun w w0 w1 => ?_)
  refine o_bipush dL_undone_300 (by decide) ?_
  refine o_irem dL_undone_302 ⟨by omega, by omega⟩ ⟨by omega, by omega⟩ (by omega) (by omega) ?_
  have a5 := t_num_l7 (z := w % 6) (by omega)
  refine tx_num hl H4 B4 ⟨by omega, by omega⟩ dL_undone_303 ml_L_304 (by simp only [List.length_append, List.length_cons, List.length_nil] <;> omega) ⟨by omega, by omega⟩ (fun q hq (z : Nat) hz => by simp only [List.mem_cons, List.not_mem_nil, or_false] at hq; rcases hq with rfl | rfl | rfl | rfl | rfl | rfl | rfl <;> (cases hz; try omega)) (fun v hv (z : Nat) hz => by rcases List.mem_singleton.mp hv with rfl; cases hz; omega) (Nat.le_of_ble_eq_true rfl) (by omega) (by omega) (by omega) (fun k5 H5 B5 e5 => ?_)
  have f5 : k5 192 = h 192 := (e5 192 (by decide) (by decide)).trans f4
  refine o_ldcSW (num := 61) (tx := " ") dL_undone_306 t_q302 ?_
  refine tx_app hl H5 B5 t_c61 dL_undone_309 ml_L_298 (by simp only [List.length_append, List.length_cons, List.length_nil] <;> omega) ⟨by omega, by omega⟩ (fun q hq (z : Nat) hz => by simp only [List.mem_cons, List.not_mem_nil, or_false] at hq; rcases hq with rfl | rfl | rfl | rfl | rfl | rfl | rfl <;> (cases hz; try omega)) (fun v hv (z : Nat) hz => by rcases List.mem_singleton.mp hv with rfl; cases hz; omega) (Nat.le_of_ble_eq_true rfl) (by omega) (by omega) (by omega) (fun k6 H6 B6 e6 => ?_)
  have f6 : k6 192 = h 192 := (e6 192 (by decide) (by decide)).trans f5
  refine o_iload dL_undone_312 rfl ?_
  refine o_iconst dL_undone_314 ?_
  refine y_iushr (by omega) (by omega) dL_undone_315 (fun v v0 v1 => ?_)
  refine o_bipush dL_undone_316 (by decide) ?_
  refine o_irem dL_undone_318 ⟨by omega, by omega⟩ ⟨by omega, by omega⟩ (by omega) (by omega) ?_
  have a7 := t_num_l7 (z := v % 8) (by omega)
  refine tx_num hl H6 B6 ⟨by omega, by omega⟩ dL_undone_319 ml_L_304 (by simp only [List.length_append, List.length_cons, List.length_nil] <;> omega) ⟨by omega, by omega⟩ (fun q hq (z : Nat) hz => by simp only [List.mem_cons, List.not_mem_nil, or_false] at hq; rcases hq with rfl | rfl | rfl | rfl | rfl | rfl | rfl <;> (cases hz; try omega)) (fun v hv (z : Nat) hz => by rcases List.mem_singleton.mp hv with rfl; cases hz; omega) (Nat.le_of_ble_eq_true rfl) (by omega) (by omega) (by omega) (fun k7 H7 B7 e7 => ?_)
  have f7 : k7 192 = h 192 := (e7 192 (by decide) (by decide)).trans f6
  refine o_ldcSW (num := 69) (tx := " 3;wait;renew ") dL_undone_322 t_q363 ?_
  refine tx_app hl H7 B7 t_c69 dL_undone_325 ml_L_298 (by simp only [List.length_append, List.length_cons, List.length_nil] <;> omega) ⟨by omega, by omega⟩ (fun q hq (z : Nat) hz => by simp only [List.mem_cons, List.not_mem_nil, or_false] at hq; rcases hq with rfl | rfl | rfl | rfl | rfl | rfl | rfl <;> (cases hz; try omega)) (fun v hv (z : Nat) hz => by rcases List.mem_singleton.mp hv with rfl; cases hz; omega) (Nat.le_of_ble_eq_true rfl) (by omega) (by omega) (by omega) (fun k8 H8 B8 e8 => ?_)
  have f8 : k8 192 = h 192 := (e8 192 (by decide) (by decide)).trans f7
  refine o_iload dL_undone_328 rfl ?_
  refine o_iconst dL_undone_330 ?_
  refine y_iushr (by omega) (by omega) dL_undone_331 (fun y y0 y1 => ?_)
  refine o_bipush dL_undone_332 (by decide) ?_
  refine o_irem dL_undone_334 ⟨by omega, by omega⟩ ⟨by omega, by omega⟩ (by omega) (by omega) ?_
  have a9 := t_num_l7 (z := y % 8) (by omega)
  refine tx_num hl H8 B8 ⟨by omega, by omega⟩ dL_undone_335 ml_L_304 (by simp only [List.length_append, List.length_cons, List.length_nil] <;> omega) ⟨by omega, by omega⟩ (fun q hq (z : Nat) hz => by simp only [List.mem_cons, List.not_mem_nil, or_false] at hq; rcases hq with rfl | rfl | rfl | rfl | rfl | rfl | rfl <;> (cases hz; try omega)) (fun v hv (z : Nat) hz => by rcases List.mem_singleton.mp hv with rfl; cases hz; omega) (Nat.le_of_ble_eq_true rfl) (by omega) (by omega) (by omega) (fun k9 H9 B9 e9 => ?_)
  have f9 : k9 192 = h 192 := (e9 192 (by decide) (by decide)).trans f8
  refine o_ldcSW (num := 70) (tx := " 2") dL_undone_338 t_q365 ?_
  refine tx_app hl H9 B9 t_c70 dL_undone_341 ml_L_298 (by simp only [List.length_append, List.length_cons, List.length_nil] <;> omega) ⟨by omega, by omega⟩ (fun q hq (z : Nat) hz => by simp only [List.mem_cons, List.not_mem_nil, or_false] at hq; rcases hq with rfl | rfl | rfl | rfl | rfl | rfl | rfl <;> (cases hz; try omega)) (fun v hv (z : Nat) hz => by rcases List.mem_singleton.mp hv with rfl; cases hz; omega) (Nat.le_of_ble_eq_true rfl) (by omega) (by omega) (by omega) (fun k10 H10 B10 e10 => ?_)
  have f10 : k10 192 = h 192 := (e10 192 (by decide) (by decide)).trans f9
  refine tx_str hl H10 B10 (by omega) dL_undone_344 ml_L_311 (by simp only [List.length_append, List.length_cons, List.length_nil] <;> omega) (fun k h1 h2 => ⟨by omega, h2⟩) (fun q hq (z : Nat) hz => by simp only [List.mem_cons, List.not_mem_nil, or_false] at hq; rcases hq with rfl | rfl | rfl | rfl | rfl | rfl | rfl <;> (cases hz; try omega)) (fun v hv (z : Nat) hz => by rcases List.mem_singleton.mp hv with rfl; cases hz; omega) (Nat.le_of_ble_eq_true rfl) (by omega) (by omega) (by omega) (fun k11 H11 B11 e11 => ?_)
  have f11 : k11 192 = h 192 := (e11 192 (by decide)).trans f10
  refine u_s [.ref 0, .ref 195] (ct_L_run hl 0 197 n g M P S T k11 hx hw hn H11 195 _ B11) dL_undone_347 ml_L_355 ys_L_run rfl (by decide) (by omega) (by omega) (by omega) rfl (Nat.le_of_ble_eq_true rfl) (fun z g2 M2 P2 T2 h2 u2 => ?_)
  have u2 := u2.cut (h := h) (by decide) f11 h192
  refine o_cut (n := 193) (h' := h2) (by decide) (fun _ _ => rfl) ?_
  refine o_istore dL_undone_350 (by decide) ?_
  exact o_loc [(0, .ref 5000000), (1, .ref 0), (2, .ref 192), (3, .int (o_I (dn : Int))), (4, .int (o_I (i : Int))), (7, .int (o_I z))] rfl (J z g2 M2 P2 T2 h2 _ _ (u2.x fun _ => trivial) (by omega) (by omega))
set_option maxRecDepth 100000 in
set_option maxHeartbeats 4000000 in
theorem un_sw (hl : l.stackTraces = false) (hx : o_xd g M P S T) (hw : w_in n M P S T) (hn : n ≤ 512) (hH : t_H 193 g h) (h192 : h 192 = .inl (4, 9, .inr (.inl f))) {c e : Int} (hc : 0 ≤ c ∧ c ≤ 2147483647) (he : 0 ≤ e ∧ e ≤ 2147483647) (hmc : 200 ≤ mc) (hms : 4000 ≤ ms) (J : ∀ (z : Int) (g' M' : Nat → Nat → Int) (P' : List (Nat → Nat → Int)) (T' : Nat → Nat → Int) (h' : Nat → o_C) (mc9 ms9 : Nat), u_F 193 h n M P S (fun _ _ => True) z g' M' P' T' h' → mc ≤ mc9 + 200 → ms ≤ ms9 + 4000 → o_V l mL_undone (d + 14) t_al u_one 352 [(0, .ref 5000000), (1, .ref 0), (2, .ref 192), (3, .int (o_I (dn : Int))), (4, .int (o_I (i : Int))), (7, .int (o_I z))] [] 193 h' mc9 ms9) : o_V l mL_undone (d + 14) t_al u_one 48 [(0, .ref 5000000), (1, .ref 0), (2, .ref 192), (3, .int (o_I (dn : Int))), (4, .int (o_I (i : Int))), (5, .int (o_I c)), (6, .int (o_I e))] [.int (o_I (c % 9))] 193 h mc ms := by
  rcases (by omega : c % 9 = 0 ∨ c % 9 = 1 ∨ c % 9 = 2 ∨ c % 9 = 3 ∨ c % 9 = 4 ∨ c % 9 = 5 ∨ c % 9 = 6 ∨ c % 9 = 7 ∨ c % 9 = 8) with q | q | q | q | q | q | q | q | q <;> rw [q]
  · exact o_tableIn (off := 48) (tgt := 96) dL_undone_48 (by decide) (by decide) rfl (by decide) (un_a0 hl hx hw hn hH hc he hmc hms J)
  · exact o_tableIn (off := 77) (tgt := 125) dL_undone_48 (by decide) (by decide) rfl (by decide) (un_a1 hl hx hw hn hH hc he hmc hms J)
  · exact o_tableIn (off := 92) (tgt := 140) dL_undone_48 (by decide) (by decide) rfl (by decide) (un_a2 hl hx hw hn hH hc he hmc hms J)
  · exact o_tableIn (off := 92) (tgt := 140) dL_undone_48 (by decide) (by decide) rfl (by decide) (un_a2 hl hx hw hn hH hc he hmc hms J)
  · exact o_tableIn (off := 121) (tgt := 169) dL_undone_48 (by decide) (by decide) rfl (by decide) (un_a4 hl hx hw hn hH hc he hmc hms J)
  · exact o_tableIn (off := 142) (tgt := 190) dL_undone_48 (by decide) (by decide) rfl (by decide) (un_a5 hl hx hw hn hH hc he hmc hms J)
  · exact o_tableIn (off := 156) (tgt := 204) dL_undone_48 (by decide) (by decide) rfl (by decide) (un_a6 hl hx hw hn hH hc he hmc hms J)
  · exact o_tableIn (off := 170) (tgt := 218) dL_undone_48 (by decide) (by decide) rfl (by decide) (un_a7 hl hx hw hn hH h192 hc he hmc hms J)
  · exact o_tableOut (tgt := 269) dL_undone_48 (Or.inr (by decide)) (by decide) (un_a8 hl hx hw hn hH h192 hc he hmc hms J)
set_option maxRecDepth 100000 in
set_option maxHeartbeats 4000000 in
theorem un_loop (hl : l.stackTraces = false) : ∀ (i : Nat), i ≤ 7 → ∀ (n dn mc ms : Nat) (g M : Nat → Nat → Int) (P : List (Nat → Nat → Int)) (T : Nat → Nat → Int) (h : Nat → o_C) (f : Nat → Int64), n + (7 - i) ≤ 512 → dn ≤ i → un_I n dn g M P S T h f → 450 * (7 - i) + 800 ≤ mc → 6000 * (7 - i) + 5000 ≤ ms → o_V l mL_undone (d + 14) t_al u_one 10 [(0, .ref 5000000), (1, .ref 0), (2, .ref 192), (3, .int (o_I (dn : Int))), (4, .int (o_I (i : Int)))] [] 193 h mc ms := by
  refine o_lp (fun i => ∀ (n dn mc ms : Nat) (g M : Nat → Nat → Int) (P : List (Nat → Nat → Int)) (T : Nat → Nat → Int) (h : Nat → o_C) (f : Nat → Int64), n + (7 - i) ≤ 512 → dn ≤ i → un_I n dn g M P S T h f → 450 * (7 - i) + 800 ≤ mc → 6000 * (7 - i) + 5000 ≤ ms → o_V l mL_undone (d + 14) t_al u_one 10 [(0, .ref 5000000), (1, .ref 0), (2, .ref 192), (3, .int (o_I (dn : Int))), (4, .int (o_I (i : Int)))] [] 193 h mc ms) 7 (fun i hi ih n dn mc ms g M P T h f hn hdn hI hmc hms => ?_)
  obtain ⟨hx, hw, hH, h192, hok⟩ := hI
  have hP := u_len hx
  refine o_iload dL_undone_10 rfl ?_
  refine o_bipush dL_undone_12 (by decide) ?_
  refine o_icmp_ge (tgt := 389) dL_undone_14 (by decide) ⟨by omega, by omega⟩ ⟨by omega, by omega⟩ (fun c9 => ?_) (fun c9 => ?_)
  · refine o_aload_n dL_undone_389 rfl ?_
    refine tx_v [] (cv_undoCount hl 0 g M P S T hx hw.1.1) hH y_int (fun _ z => z.elim) (fun _ z _ => z.elim) (Or.inl fun _ z => z) dL_undone_390 ml_L_367 yw_X11_undoCount rfl (by decide) rfl (by omega) (by omega) (by omega) rfl (Nat.le_of_ble_eq_true rfl) (fun g1 h1 hx1 hH1 he1 => ?_)
    refine o_istore dL_undone_393 (by decide) ?_
    refine o_iload_n dL_undone_395 rfl ?_
    refine o_iconst dL_undone_396 ?_
    refine o_isub dL_undone_397 ?_
    refine o_istore dL_undone_398 (by decide) ?_
    exact o_loc [(1, .ref 0), (2, .ref 192), (4, .int (o_I (P.length : Int))), (5, .int (o_I ((dn : Int) - 1)))] rfl (un_undo hl dn n _ _ g1 M P T h1 (by omega) hx1 hw.1.1 hw.2.1 hH1 ((he1 192 (Nat.le_refl _)).trans h192) hok (by omega) (by omega))
  · refine o_aload_n dL_undone_17 rfl ?_
    refine o_bipush dL_undone_18 (by decide) ?_
    refine o_iload dL_undone_20 rfl ?_
    refine o_iadd dL_undone_22 ?_
    refine o_callS [.ref 5000000, .int (o_I ((12 : Int) + (i : Int)))] (ct_L_cell hl 0 193 h ((12 : Int) + (i : Int)) (by omega) (by omega)) dL_undone_23 ml_L_145 ys_L_cell rfl (by decide) (by omega) (Nat.zero_le _) (Nat.zero_le _) rfl (Nat.le_of_ble_eq_true rfl) (fun _ z => z.elim) (fun _ z => z.elim) (Or.inl fun _ z => z) (fun v9 n9 h9 q9 => ?_) (fun E n9 h9 q9 => by obtain ⟨⟨x, q⟩, -⟩ := q9; cases q)
    obtain ⟨⟨x, q⟩, rfl, rfl⟩ := q9
    cases q
    refine o_iconst dL_undone_26 ?_
    refine y_iushr (by omega) (by omega) dL_undone_27 (fun c hc0 hc1 => ?_)
    refine o_istore dL_undone_28 (by decide) ?_
    refine o_iload dL_undone_30 rfl ?_
    refine o_iconst dL_undone_32 ?_
    refine y_iushr (by omega) (by omega) dL_undone_33 (fun e he0 he1 => ?_)
    refine o_istore dL_undone_34 (by decide) ?_
    refine o_aload_n dL_undone_36 rfl ?_
    refine o_iload_n dL_undone_37 rfl ?_
    refine o_aload_n dL_undone_38 rfl ?_
    refine tx_s [.ref 0] (ct_L_sum hl 0 g M P S T hx hw.1.1) hH y_lng dL_undone_39 ml_L_347 ys_L_sum rfl (by decide) (by omega) (by omega) (by omega) rfl (Nat.le_of_ble_eq_true rfl) (fun g2 h2 hx2 hH2 he2 => ?_)
    have e2 := (he2 192 (Nat.le_refl _)).trans h192
    refine o_last dL_undone_42 (by decide) e2 (by decide) (by omega) (by omega) rfl ?_
    rw [Int.toNat_natCast]
    obtain ⟨h3, hh3⟩ : ∃ h3, h3 = o_up h2 192 (.inl (4, 9, .inr (.inl (vp_updL f dn (y_sum M))))) := ⟨_, rfl⟩
    rw [← hh3]
    have e3 : h3 192 = .inl (4, 9, .inr (.inl (vp_updL f dn (y_sum M)))) := by rw [hh3]; exact if_pos rfl
    have hH3 : t_H 193 g2 h3 := ⟨fun k hk => by rw [hh3]; exact (if_neg (by omega)).trans (hH2.1 k hk), fun k h1 h2 => by rw [show k = 192 by omega, e3]; exact trivial, by decide, by decide⟩
    have hok3 := hok.up (y_sum M)
    have hf3 : vp_updL f dn (y_sum M) dn = y_sum M := by unfold vp_updL; exact if_pos rfl
    refine o_iload dL_undone_43 rfl ?_
    refine o_bipush dL_undone_45 (by decide) ?_
    refine o_irem dL_undone_47 ⟨by omega, by omega⟩ ⟨by omega, by omega⟩ (by omega) (by omega) ?_
    refine o_loc [(0, .ref 5000000), (1, .ref 0), (2, .ref 192), (3, .int (o_I (dn : Int))), (4, .int (o_I (i : Int))), (5, .int (o_I c)), (6, .int (o_I e))] rfl ?_
    refine un_sw hl hx2 hw (by omega) hH3 e3 ⟨hc0, hc1⟩ ⟨he0, he1⟩ (by omega) (by omega) (fun z g4 M4 P4 T4 h4 mc4 ms4 u4 b1 b2 => ?_)
    refine un_352 hl hdn (by omega) e3 hok3 hf3 hP u4 (by omega) (by omega) (fun g5 M5 P5 T5 h5 dn5 mc5 ms5 hI5 d5 b3 b4 => ?_)
    exact ih (by omega) (n + 1) dn5 mc5 ms5 g5 M5 P5 T5 h5 _ (by omega) d5 hI5 (by omega) (by omega)
end UN
set_option maxRecDepth 100000 in
set_option maxHeartbeats 4000000 in
/-- undone -/
theorem ct_L_undone {l : Launch} (hl : l.stackTraces = false) (d n : Nat) (g M : Nat → Nat → Int) (P : List (Nat → Nat → Int)) (S : Option (Nat → Nat → Int)) (T : Nat → Nat → Int) (hx : o_xd g M P S T) (hw : w_in n M P S T) (hn : n ≤ 500) : o_Ct l yL_undone wL_undone (d + 14) t_al [.ref 5000000, .ref 0] o_N (o_mem g) 4500 52000 u_one := by
  refine o_Ct.ofV hl mL_undone (by decide +kernel) rfl rfl rfl (Nat.le_of_ble_eq_true rfl) ?_
  refine o_bipush dL_undone_0 (by decide) ?_
  refine o_newa (N := 9) (t := 4) (x := (9, .inr (.inl (fun _ => 0)))) (o_mem_ok g) (by decide) ⟨by decide, by decide⟩ dL_undone_2 rfl rfl (o_gT (i := 1556) (by decide +kernel) rfl) (fun _ => rfl) (fun _ => rfl) trivial (by decide) ⟨fun q hq (z : Nat) hz => by simp only [lv_args, List.mem_cons, List.not_mem_nil, or_false] at hq; rcases hq with rfl | rfl <;> (cases hz; decide), fun v hv => by cases hv⟩ (by omega) (by omega) (fun ok1 => ?_)
  obtain ⟨h3, hh3⟩ : ∃ h3, h3 = o_up (o_mem g) 192 (.inl (4, 9, .inr (.inl (fun _ => 0)))) := ⟨_, rfl⟩
  rw [← hh3]
  have e3 : h3 192 = .inl (4, 9, .inr (.inl (fun _ => 0))) := by rw [hh3]; exact if_pos rfl
  have hH3 : t_H 193 g h3 := ⟨fun k hk => by rw [hh3]; exact if_neg (by omega), fun k h1 h2 => by rw [show k = 192 by omega, e3]; exact trivial, by decide, by decide⟩
  refine o_astore_n dL_undone_4 (by decide) ?_
  refine o_iconst dL_undone_5 ?_
  refine o_istore_n dL_undone_6 (by decide) ?_
  refine o_iconst dL_undone_7 ?_
  refine o_istore dL_undone_8 (by decide) ?_
  exact o_loc [(0, .ref 5000000), (1, .ref 0), (2, .ref 192), (3, .int (o_I ((0 : Nat) : Int))), (4, .int (o_I ((0 : Nat) : Int)))] rfl (un_loop hl 0 (Nat.zero_le _) n 0 _ _ g M P T h3 _ (by omega) (Nat.le_refl _) ⟨hx, hw, hH3, e3, u_ok0 _ _⟩ (by omega) (by omega))
