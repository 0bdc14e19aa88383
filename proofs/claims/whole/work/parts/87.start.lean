/-! the law's start -/
theorem w_in0 : w_in 0 x_M0 [] none x_T0 := ⟨⟨x_wf0, by decide⟩, fun B hB => absurd hB List.not_mem_nil, (fun B hB => by cases hB), x_tk0, ⟨by decide, by decide⟩, fun j hj => absurd hj (by show ¬ (j : Int) < 0; omega)⟩
set_option maxRecDepth 100000 in
set_option maxHeartbeats 4000000 in
theorem w_start {l : Launch} (hl : l.stackTraces = false) {Z : o_Z} {post : o_P} (hpost : ∀ n h, post (.inl (some (.int (o_I 1)))) n h) (hL : Z.2.2.2.1 ≤ 2048) : o_Vz Z l mL_law 16 w_al post 0 [(0, .ref 5000000)] [] 0 (o_hL []) 603072 7178346 := by
  refine oz_new (ci := 0) (N := 12) (C := RX11) (T := TX11) (fs := [.null, .null, .null, .int (o_I 0), .null, .null, .null, .null, .null, .int (o_I 0), .int (o_I 0), .int (o_I 0)]) (ty := tyX11) (fun k hk => absurd hk (Nat.not_lt_zero k)) (by decide) (by decide) dL_law_0 (o_gT (i := 38) (by decide +kernel) rfl) (o_gT (i := 39) (by decide +kernel) rfl) (o_gT (i := 1) (by decide +kernel) rfl) rfl tyX11_ok (fun j hj => by rcases (by omega : j = 0 ∨ j = 1 ∨ j = 2 ∨ j = 3 ∨ j = 4 ∨ j = 5 ∨ j = 6 ∨ j = 7 ∨ j = 8 ∨ j = 9 ∨ j = 10 ∨ j = 11) with rfl | rfl | rfl | rfl | rfl | rfl | rfl | rfl | rfl | rfl | rfl | rfl <;> rfl) (fun v hv r => by simp only [List.mem_cons, List.not_mem_nil, or_false] at hv; rcases hv with rfl | rfl | rfl | rfl | rfl | rfl | rfl | rfl | rfl | rfl | rfl | rfl <;> exact fun z => by cases z) ⟨fun q hq k hk => by simp only [List.mem_cons, List.not_mem_nil, or_false] at hq; rcases hq with rfl <;> (cases hk; decide), fun v hv => absurd hv List.not_mem_nil⟩ (Nat.le_of_ble_eq_true rfl) (Nat.le_of_ble_eq_true rfl) (fun ok1 => ?_)
  rw [show o_up (o_hL []) 0 (.inr (0, [.null, .null, .null, .int (o_I 0), .null, .null, .null, .null, .null, .int (o_I 0), .int (o_I 0), .int (o_I 0)])) = o_hL ([] ++ [.inr (0, [.null, .null, .null, .int (o_I 0), .null, .null, .null, .null, .null, .int (o_I 0), .int (o_I 0), .int (o_I 0)])]) from o_hA (L := []) (R := []) rfl _] at ok1 ⊢
  refine oz_dup dL_law_3 rfl ?_
  have hC1 := ct_X11_init hl 0 [] 0 rfl (by decide) ok1
  refine oz_callI (aly := x_al 0) [] hC1 dL_law_4 ml_L_139 yi_X11_init rfl rfl (by decide) (by decide) (Nat.le_of_ble_eq_true rfl) (Nat.le_of_ble_eq_true rfl) rfl (Nat.le_of_ble_eq_true rfl) (fun k hk => hk.2) (fun k hk => hk.2) (Or.inr ⟨fun q hq k hk z => by simp only [List.mem_cons, List.not_mem_nil, or_false] at hq; rcases hq with rfl <;> (cases hk; have z1 := z.1; have z2 := z.2; omega), fun v hv k hk z => by simp only [List.mem_cons, List.not_mem_nil, or_false] at hv; rcases hv with rfl <;> (cases hk; have z1 := z.1; have z2 := z.2; omega)⟩) (fun v9 n9 h9 q9 => ?_) (fun E n9 h9 q9 => by cases q9.1)
  obtain ⟨q1, q2, q3, ok2⟩ := q9
  subst q2
  subst q3
  cases q1
  change o_ok 192 (o_hL (x_c11 0)) at ok2
  change o_Vz _ _ _ _ _ _ _ _ _ 192 (o_hL (x_c11 0)) _ _
  refine oz_astore_n dL_law_7 (by decide) ?_
  refine oz_loc [(0, .ref 5000000), (1, .ref 0)] rfl ?_
  refine oz_new (ci := 10) (N := 19) (C := RX12) (T := TX12) (fs := [.null, .null, .null, .null, .int (o_I 0), .null, .int (o_I 0), .int (o_I 0), .null, .int (o_I 0), .null, .int (o_I 0), .int (o_I 0), .int (o_I 0), .int (o_I 0), .int (o_I 0), .int (o_I 0), .null, .int (o_I 0)]) (ty := tyX12) ok2 (by decide) (by decide) dL_law_8 (o_gT (i := 1536) (by decide +kernel) rfl) (o_gT (i := 1537) (by decide +kernel) rfl) (o_gT (i := 17) (by decide +kernel) rfl) rfl tyX12_ok (fun j hj => by rcases (by omega : j = 0 ∨ j = 1 ∨ j = 2 ∨ j = 3 ∨ j = 4 ∨ j = 5 ∨ j = 6 ∨ j = 7 ∨ j = 8 ∨ j = 9 ∨ j = 10 ∨ j = 11 ∨ j = 12 ∨ j = 13 ∨ j = 14 ∨ j = 15 ∨ j = 16 ∨ j = 17 ∨ j = 18) with rfl | rfl | rfl | rfl | rfl | rfl | rfl | rfl | rfl | rfl | rfl | rfl | rfl | rfl | rfl | rfl | rfl | rfl | rfl <;> rfl) (fun v hv r => by simp only [List.mem_cons, List.not_mem_nil, or_false] at hv; rcases hv with rfl | rfl | rfl | rfl | rfl | rfl | rfl | rfl | rfl | rfl | rfl | rfl | rfl | rfl | rfl | rfl | rfl | rfl | rfl <;> exact fun z => by cases z) ⟨fun q hq k hk => by simp only [List.mem_cons, List.not_mem_nil, or_false] at hq; rcases hq with rfl | rfl <;> (cases hk; decide), fun v hv => absurd hv List.not_mem_nil⟩ (Nat.le_of_ble_eq_true rfl) (Nat.le_of_ble_eq_true rfl) (fun ok3 => ?_)
  rw [show o_up (o_hL (x_c11 0)) 192 (.inr (10, [.null, .null, .null, .null, .int (o_I 0), .null, .int (o_I 0), .int (o_I 0), .null, .int (o_I 0), .null, .int (o_I 0), .int (o_I 0), .int (o_I 0), .int (o_I 0), .int (o_I 0), .int (o_I 0), .null, .int (o_I 0)])) = o_hL (x_c11 0 ++ [.inr (10, [.null, .null, .null, .null, .int (o_I 0), .null, .int (o_I 0), .int (o_I 0), .null, .int (o_I 0), .null, .int (o_I 0), .int (o_I 0), .int (o_I 0), .int (o_I 0), .int (o_I 0), .int (o_I 0), .null, .int (o_I 0)])]) from o_hA (L := x_c11 0) (R := []) rfl _] at ok3 ⊢
  refine oz_dup dL_law_11 rfl ?_
  have hC2 := ct_X12_init hl 0 (x_c11 0) 192 rfl (by decide) ok3
  refine oz_callI (aly := x_al 192) [] hC2 dL_law_12 ml_L_142 yi_X12_init rfl rfl (by decide) (by decide) (Nat.le_of_ble_eq_true rfl) (Nat.le_of_ble_eq_true rfl) rfl (Nat.le_of_ble_eq_true rfl) (fun k hk => hk.2) (fun k hk => hk.2) (Or.inr ⟨fun q hq k hk z => by simp only [List.mem_cons, List.not_mem_nil, or_false] at hq; rcases hq with rfl | rfl <;> (cases hk; have z1 := z.1; have z2 := z.2; omega), fun v hv k hk z => by simp only [List.mem_cons, List.not_mem_nil, or_false] at hv; rcases hv with rfl <;> (cases hk; have z1 := z.1; have z2 := z.2; omega)⟩) (fun v9 n9 h9 q9 => ?_) (fun E n9 h9 q9 => by cases q9.1)
  obtain ⟨q1, q2, q3, ok4⟩ := q9
  subst q2
  subst q3
  cases q1
  change o_ok 201 (o_hL (x_c11 0 ++ x_c12 192)) at ok4
  change o_Vz _ _ _ _ _ _ _ _ _ 201 (o_hL (x_c11 0 ++ x_c12 192)) _ _
  refine oz_astore_n dL_law_15 (by decide) ?_
  refine oz_loc [(0, .ref 5000000), (1, .ref 0), (2, .ref 192)] rfl ?_
  refine oz_iconst dL_law_16 ?_
  refine oz_newa (N := 1) (t := 4) (x := (1, .inr (.inl (fun _ => 0)))) ok4 (by decide) (by decide) dL_law_17 rfl rfl (o_gT (i := 1988) (by decide +kernel) rfl) (fun _ => rfl) (fun _ => rfl) trivial (by decide) ⟨fun q hq k hk => by simp only [List.mem_cons, List.not_mem_nil, or_false] at hq; rcases hq with rfl | rfl | rfl <;> (cases hk; decide), fun v hv => absurd hv List.not_mem_nil⟩ (Nat.le_of_ble_eq_true rfl) (Nat.le_of_ble_eq_true rfl) (fun ok5 => ?_)
  rw [show o_up (o_hL (x_c11 0 ++ x_c12 192)) 201 (.inl (4, 1, .inr (.inl (fun _ => 0)))) = o_hL (x_c11 0 ++ (x_c12 192 ++ [.inl (4, 1, .inr (.inl (fun _ => 0)))])) from o_hA (L := x_c11 0) (R := x_c12 192) rfl _] at ok5 ⊢
  refine oz_astore_n dL_law_19 (by decide) ?_
  refine oz_loc [(0, .ref 5000000), (1, .ref 0), (2, .ref 192), (3, .ref 201)] rfl ?_
  refine oz_iconst dL_law_20 ?_
  refine oz_newa (N := 1) (t := 5) (x := (1, .inr (.inr (.inr (.inl (fun _ => 0)))))) ok5 (by decide) (by decide) dL_law_21 rfl rfl (o_gT (i := 1989) (by decide +kernel) rfl) (fun _ => rfl) (fun _ => rfl) trivial (by decide) ⟨fun q hq k hk => by simp only [List.mem_cons, List.not_mem_nil, or_false] at hq; rcases hq with rfl | rfl | rfl | rfl <;> (cases hk; decide), fun v hv => absurd hv List.not_mem_nil⟩ (Nat.le_of_ble_eq_true rfl) (Nat.le_of_ble_eq_true rfl) (fun ok6 => ?_)
  rw [show o_up (o_hL (x_c11 0 ++ (x_c12 192 ++ [.inl (4, 1, .inr (.inl (fun _ => 0)))]))) 202 (.inl (5, 1, .inr (.inr (.inr (.inl (fun _ => 0)))))) = o_hL x_L0 from o_hA (L := x_c11 0) (R := x_c12 192 ++ [.inl (4, 1, .inr (.inl (fun _ => 0)))]) rfl _]
  refine oz_astore dL_law_23 (by decide) ?_
  refine oz_iconst dL_law_25 ?_
  refine oz_istore dL_law_26 (by decide) ?_
  refine oz_start ?_
  refine oz_loc (w_ls 0) rfl ?_
  exact w_loop hl hpost hL 512 0 x_g0 x_M0 x_T0 [] none _ _ rfl (Nat.zero_le _) (Nat.le_of_ble_eq_true rfl) (Nat.le_of_ble_eq_true rfl) x_xd0 x_md0 w_in0
