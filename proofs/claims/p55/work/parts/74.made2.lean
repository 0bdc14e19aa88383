/-! making the objects that hold others -/
theorem o_hG {L A R : List o_C} {c : o_C} {n : Nat} (hn : (L ++ A).length = n) : o_hL (L ++ (A ++ c :: R)) n = c := by
  rw [← List.append_assoc]; exact o_h0 hn
theorem o_hUG {L A R : List o_C} {c : o_C} {n : Nat} (hn : (L ++ A).length = n) (c' : o_C) : o_up (o_hL (L ++ (A ++ c :: R))) n c' = o_hL (L ++ (A ++ c' :: R)) := by
  rw [← List.append_assoc, ← List.append_assoc]; exact o_hU hn c'
def x_c10 (b : Nat) : List o_C := .inr (1, [.ref (b + 1), .ref (b + 5), .ref (b + 11), .int (o_I 0), .int (o_I 0), .int (o_I 0), .int (o_I 0)]) :: (x_c9 (b + 1) ++ ((x_c7 (b + 5) ++ ((x_c8 (b + 11) ++ ([]))))))
set_option maxRecDepth 100000 in
set_option maxHeartbeats 4000000 in
/-- new State() -/
theorem ct_X10_init {l : Launch} (hl : l.stackTraces = false) (d : Nat) (L : List o_C) (b : Nat) (hb : L.length = b) (hlt : b < 800000) (hok : o_ok (b + 1) (o_hL (L ++ [.inr (1, [.null, .null, .null, .int (o_I 0), .int (o_I 0), .int (o_I 0), .int (o_I 0)])]))) : o_Ct l yX10_init wX10_init (d + 2) (x_al b) [.ref b] (b + 1) (o_hL (L ++ [.inr (1, [.null, .null, .null, .int (o_I 0), .int (o_I 0), .int (o_I 0), .int (o_I 0)])])) 13 87 (x_is (b + 14) (o_hL (L ++ x_c10 b))) := by
  refine o_Ct.ofV hl mX10_init (by decide +kernel) rfl rfl rfl (Nat.le_of_ble_eq_true rfl) ?_
  refine o_aload_n dX10_init_0 rfl ?_
  refine o_oi dX10_init_1 (o_gT (i := 53) (by decide +kernel) rfl) (o_gT (i := 46) (by decide +kernel) rfl) (o_gT (i := 47) (by decide +kernel) rfl) (by decide) ?_
  refine o_aload_n dX10_init_4 rfl ?_
  refine o_new (ci := 2) (N := 4) (C := RX9) (T := TX9) (fs := [.int (o_I 0), .null, .null, .null]) (ty := tyX9) hok (by omega) ⟨by omega, by omega⟩ dX10_init_5 (o_gT (i := 54) (by decide +kernel) rfl) (o_gT (i := 55) (by decide +kernel) rfl) (o_gT (i := 3) (by decide +kernel) rfl) rfl tyX9_ok (fun j hj => by rcases (by omega : j = 0 ∨ j = 1 ∨ j = 2 ∨ j = 3) with rfl | rfl | rfl | rfl <;> rfl) (fun v hv r => by simp only [List.mem_cons, List.not_mem_nil, or_false] at hv; rcases hv with rfl | rfl | rfl | rfl <;> exact fun z => by cases z) (x_rf (by omega) (fun v hv k hk => by simp only [List.mem_cons, List.not_mem_nil, or_false] at hv; subst hv; cases hk; omega)) (by omega) (by omega) (fun ok0 => ?_)
  rw [o_hA (L := L) (R := (.inr (1, [.null, .null, .null, .int (o_I 0), .int (o_I 0), .int (o_I 0), .int (o_I 0)]) :: [])) (by rw [List.length_append, hb]; rfl), show L ++ ((.inr (1, [.null, .null, .null, .int (o_I 0), .int (o_I 0), .int (o_I 0), .int (o_I 0)]) :: []) ++ [.inr (2, [.int (o_I 0), .null, .null, .null])]) = (L ++ (.inr (1, [.null, .null, .null, .int (o_I 0), .int (o_I 0), .int (o_I 0), .int (o_I 0)]) :: [])) ++ [.inr (2, [.int (o_I 0), .null, .null, .null])] from (List.append_assoc _ _ _).symm] at ok0 ⊢
  refine o_dup dX10_init_8 rfl ?_
  have hCok0 := ct_X9_init hl d (L ++ (.inr (1, [.null, .null, .null, .int (o_I 0), .int (o_I 0), .int (o_I 0), .int (o_I 0)]) :: [])) (b + 1) (by rw [List.length_append, hb]; rfl) (by omega) ok0
  refine o_callIN (host := "LampLeaseOffice") (aly := x_al (b + 1)) [] hCok0 dX10_init_9 (List.Mem.tail _ (List.Mem.head _)) yi_X9_init rfl rfl (by decide) (by omega) (by omega) (by omega) rfl (Nat.le_of_ble_eq_true rfl) (fun k hk => ⟨by have := hk.1; omega, hk.2⟩) (fun k hk => hk.2) (x_fr (b := b) (fun q hq k hk => by rcases List.mem_singleton.mp hq with rfl; cases hk; omega) (fun v hv k hk => by simp only [List.mem_cons, List.not_mem_nil, or_false] at hv; rcases hv with rfl | rfl <;> (cases hk; omega))) (fun v9 n9 h9 q9 => ?_) (fun E n9 h9 q9 => by cases q9.1)
  obtain ⟨q91, q92, q93, ok1⟩ := q9
  subst q92
  subst q93
  cases q91
  rw [show (L ++ (.inr (1, [.null, .null, .null, .int (o_I 0), .int (o_I 0), .int (o_I 0), .int (o_I 0)]) :: [])) ++ x_c9 (b + 1) = L ++ (.inr (1, [.null, .null, .null, .int (o_I 0), .int (o_I 0), .int (o_I 0), .int (o_I 0)]) :: (x_c9 (b + 1) ++ ([]))) from List.append_assoc _ _ _] at ok1 ⊢
  refine o_putF (ci := 1) (k9 := 0) (C := RX10) (T := TX10) (N := 7) dX10_init_12 (by omega) (o_h0 hb) rfl (by decide) (o_gT (i := 145) (by decide +kernel) rfl) rfl rfl rfl (tyX10_ok 0 (by decide)) (Nat.le_of_ble_eq_true rfl) (fun _ => rfl) (fun _ => rfl) ?_
  have ok2 := x_okP (k := 0) (v := .ref (b + 1)) hb (by omega) ok1 (fun r e => by cases e; exact Or.inl (by omega))
  rw [o_hU hb]
  change o_V _ _ _ _ _ _ _ _ _ (o_hL (L ++ (.inr (1, [.ref (b + 1), .null, .null, .int (o_I 0), .int (o_I 0), .int (o_I 0), .int (o_I 0)]) :: (x_c9 (b + 1) ++ ([]))))) _ _
  change o_ok _ (o_hL (L ++ (.inr (1, [.ref (b + 1), .null, .null, .int (o_I 0), .int (o_I 0), .int (o_I 0), .int (o_I 0)]) :: (x_c9 (b + 1) ++ ([]))))) at ok2
  refine o_aload_n dX10_init_15 rfl ?_
  refine o_new (ci := 3) (N := 6) (C := RX7) (T := TX7) (fs := [.int (o_I 0), .null, .null, .null, .null, .null]) (ty := tyX7) ok2 (by omega) ⟨by omega, by omega⟩ dX10_init_16 (o_gT (i := 83) (by decide +kernel) rfl) (o_gT (i := 84) (by decide +kernel) rfl) (o_gT (i := 4) (by decide +kernel) rfl) rfl tyX7_ok (fun j hj => by rcases (by omega : j = 0 ∨ j = 1 ∨ j = 2 ∨ j = 3 ∨ j = 4 ∨ j = 5) with rfl | rfl | rfl | rfl | rfl | rfl <;> rfl) (fun v hv r => by simp only [List.mem_cons, List.not_mem_nil, or_false] at hv; rcases hv with rfl | rfl | rfl | rfl | rfl | rfl <;> exact fun z => by cases z) (x_rf (by omega) (fun v hv k hk => by simp only [List.mem_cons, List.not_mem_nil, or_false] at hv; subst hv; cases hk; omega)) (by omega) (by omega) (fun ok3 => ?_)
  rw [o_hA (L := L) (R := (.inr (1, [.ref (b + 1), .null, .null, .int (o_I 0), .int (o_I 0), .int (o_I 0), .int (o_I 0)]) :: (x_c9 (b + 1) ++ ([])))) (by rw [List.length_append, hb]; rfl), show L ++ ((.inr (1, [.ref (b + 1), .null, .null, .int (o_I 0), .int (o_I 0), .int (o_I 0), .int (o_I 0)]) :: (x_c9 (b + 1) ++ ([]))) ++ [.inr (3, [.int (o_I 0), .null, .null, .null, .null, .null])]) = (L ++ (.inr (1, [.ref (b + 1), .null, .null, .int (o_I 0), .int (o_I 0), .int (o_I 0), .int (o_I 0)]) :: (x_c9 (b + 1) ++ ([])))) ++ [.inr (3, [.int (o_I 0), .null, .null, .null, .null, .null])] from (List.append_assoc _ _ _).symm] at ok3 ⊢
  refine o_dup dX10_init_19 rfl ?_
  have hCok3 := ct_X7_init hl d (L ++ (.inr (1, [.ref (b + 1), .null, .null, .int (o_I 0), .int (o_I 0), .int (o_I 0), .int (o_I 0)]) :: (x_c9 (b + 1) ++ ([])))) (b + 5) (by rw [List.length_append, hb]; rfl) (by omega) ok3
  refine o_callIN (host := "LampLeaseOffice") (aly := x_al (b + 5)) [] hCok3 dX10_init_20 (List.Mem.tail _ (List.Mem.tail _ (List.Mem.head _))) yi_X7_init rfl rfl (by decide) (by omega) (by omega) (by omega) rfl (Nat.le_of_ble_eq_true rfl) (fun k hk => ⟨by have := hk.1; omega, hk.2⟩) (fun k hk => hk.2) (x_fr (b := b) (fun q hq k hk => by rcases List.mem_singleton.mp hq with rfl; cases hk; omega) (fun v hv k hk => by simp only [List.mem_cons, List.not_mem_nil, or_false] at hv; rcases hv with rfl | rfl <;> (cases hk; omega))) (fun v9 n9 h9 q9 => ?_) (fun E n9 h9 q9 => by cases q9.1)
  obtain ⟨q91, q92, q93, ok4⟩ := q9
  subst q92
  subst q93
  cases q91
  rw [show (L ++ (.inr (1, [.ref (b + 1), .null, .null, .int (o_I 0), .int (o_I 0), .int (o_I 0), .int (o_I 0)]) :: (x_c9 (b + 1) ++ ([])))) ++ x_c7 (b + 5) = L ++ (.inr (1, [.ref (b + 1), .null, .null, .int (o_I 0), .int (o_I 0), .int (o_I 0), .int (o_I 0)]) :: (x_c9 (b + 1) ++ ((x_c7 (b + 5) ++ ([]))))) from List.append_assoc _ _ _] at ok4 ⊢
  refine o_putF (ci := 1) (k9 := 1) (C := RX10) (T := TX10) (N := 7) dX10_init_23 (by omega) (o_h0 hb) rfl (by decide) (o_gT (i := 148) (by decide +kernel) rfl) rfl rfl rfl (tyX10_ok 1 (by decide)) (Nat.le_of_ble_eq_true rfl) (fun _ => rfl) (fun _ => rfl) ?_
  have ok5 := x_okP (k := 1) (v := .ref (b + 5)) hb (by omega) ok4 (fun r e => by cases e; exact Or.inl (by omega))
  rw [o_hU hb]
  change o_V _ _ _ _ _ _ _ _ _ (o_hL (L ++ (.inr (1, [.ref (b + 1), .ref (b + 5), .null, .int (o_I 0), .int (o_I 0), .int (o_I 0), .int (o_I 0)]) :: (x_c9 (b + 1) ++ ((x_c7 (b + 5) ++ ([]))))))) _ _
  change o_ok _ (o_hL (L ++ (.inr (1, [.ref (b + 1), .ref (b + 5), .null, .int (o_I 0), .int (o_I 0), .int (o_I 0), .int (o_I 0)]) :: (x_c9 (b + 1) ++ ((x_c7 (b + 5) ++ ([]))))))) at ok5
  refine o_aload_n dX10_init_26 rfl ?_
  refine o_new (ci := 4) (N := 3) (C := RX8) (T := TX8) (fs := [.int (o_I 0), .null, .null]) (ty := tyX8) ok5 (by omega) ⟨by omega, by omega⟩ dX10_init_27 (o_gT (i := 123) (by decide +kernel) rfl) (o_gT (i := 124) (by decide +kernel) rfl) (o_gT (i := 5) (by decide +kernel) rfl) rfl tyX8_ok (fun j hj => by rcases (by omega : j = 0 ∨ j = 1 ∨ j = 2) with rfl | rfl | rfl <;> rfl) (fun v hv r => by simp only [List.mem_cons, List.not_mem_nil, or_false] at hv; rcases hv with rfl | rfl | rfl <;> exact fun z => by cases z) (x_rf (by omega) (fun v hv k hk => by simp only [List.mem_cons, List.not_mem_nil, or_false] at hv; subst hv; cases hk; omega)) (by omega) (by omega) (fun ok6 => ?_)
  rw [o_hA (L := L) (R := (.inr (1, [.ref (b + 1), .ref (b + 5), .null, .int (o_I 0), .int (o_I 0), .int (o_I 0), .int (o_I 0)]) :: (x_c9 (b + 1) ++ ((x_c7 (b + 5) ++ ([])))))) (by rw [List.length_append, hb]; rfl), show L ++ ((.inr (1, [.ref (b + 1), .ref (b + 5), .null, .int (o_I 0), .int (o_I 0), .int (o_I 0), .int (o_I 0)]) :: (x_c9 (b + 1) ++ ((x_c7 (b + 5) ++ ([]))))) ++ [.inr (4, [.int (o_I 0), .null, .null])]) = (L ++ (.inr (1, [.ref (b + 1), .ref (b + 5), .null, .int (o_I 0), .int (o_I 0), .int (o_I 0), .int (o_I 0)]) :: (x_c9 (b + 1) ++ ((x_c7 (b + 5) ++ ([])))))) ++ [.inr (4, [.int (o_I 0), .null, .null])] from (List.append_assoc _ _ _).symm] at ok6 ⊢
  refine o_dup dX10_init_30 rfl ?_
  have hCok6 := ct_X8_init hl d (L ++ (.inr (1, [.ref (b + 1), .ref (b + 5), .null, .int (o_I 0), .int (o_I 0), .int (o_I 0), .int (o_I 0)]) :: (x_c9 (b + 1) ++ ((x_c7 (b + 5) ++ ([])))))) (b + 11) (by rw [List.length_append, hb]; rfl) (by omega) ok6
  refine o_callIN (host := "LampLeaseOffice") (aly := x_al (b + 11)) [] hCok6 dX10_init_31 (List.Mem.tail _ (List.Mem.tail _ (List.Mem.tail _ (List.Mem.head _)))) yi_X8_init rfl rfl (by decide) (by omega) (by omega) (by omega) rfl (Nat.le_of_ble_eq_true rfl) (fun k hk => ⟨by have := hk.1; omega, hk.2⟩) (fun k hk => hk.2) (x_fr (b := b) (fun q hq k hk => by rcases List.mem_singleton.mp hq with rfl; cases hk; omega) (fun v hv k hk => by simp only [List.mem_cons, List.not_mem_nil, or_false] at hv; rcases hv with rfl | rfl <;> (cases hk; omega))) (fun v9 n9 h9 q9 => ?_) (fun E n9 h9 q9 => by cases q9.1)
  obtain ⟨q91, q92, q93, ok7⟩ := q9
  subst q92
  subst q93
  cases q91
  rw [show (L ++ (.inr (1, [.ref (b + 1), .ref (b + 5), .null, .int (o_I 0), .int (o_I 0), .int (o_I 0), .int (o_I 0)]) :: (x_c9 (b + 1) ++ ((x_c7 (b + 5) ++ ([])))))) ++ x_c8 (b + 11) = L ++ (.inr (1, [.ref (b + 1), .ref (b + 5), .null, .int (o_I 0), .int (o_I 0), .int (o_I 0), .int (o_I 0)]) :: (x_c9 (b + 1) ++ ((x_c7 (b + 5) ++ ((x_c8 (b + 11) ++ ([]))))))) from List.append_assoc _ _ _] at ok7 ⊢
  refine o_putF (ci := 1) (k9 := 2) (C := RX10) (T := TX10) (N := 7) dX10_init_34 (by omega) (o_h0 hb) rfl (by decide) (o_gT (i := 152) (by decide +kernel) rfl) rfl rfl rfl (tyX10_ok 2 (by decide)) (Nat.le_of_ble_eq_true rfl) (fun _ => rfl) (fun _ => rfl) ?_
  have ok8 := x_okP (k := 2) (v := .ref (b + 11)) hb (by omega) ok7 (fun r e => by cases e; exact Or.inl (by omega))
  rw [o_hU hb]
  change o_V _ _ _ _ _ _ _ _ _ (o_hL (L ++ (.inr (1, [.ref (b + 1), .ref (b + 5), .ref (b + 11), .int (o_I 0), .int (o_I 0), .int (o_I 0), .int (o_I 0)]) :: (x_c9 (b + 1) ++ ((x_c7 (b + 5) ++ ((x_c8 (b + 11) ++ ([]))))))))) _ _
  change o_ok _ (o_hL (L ++ (.inr (1, [.ref (b + 1), .ref (b + 5), .ref (b + 11), .int (o_I 0), .int (o_I 0), .int (o_I 0), .int (o_I 0)]) :: (x_c9 (b + 1) ++ ((x_c7 (b + 5) ++ ((x_c8 (b + 11) ++ ([]))))))))) at ok8
  refine o_ret0 dX10_init_37 trivial ?_
  exact ⟨rfl, rfl, rfl, ok8⟩
def x_c1 (b : Nat) : List o_C := .inr (9, [.ref 1000000, .ref (b + 1)]) :: x_ai 3 :: []
set_option maxRecDepth 100000 in
set_option maxHeartbeats 4000000 in
/-- new Command() -/
theorem ct_X1_init {l : Launch} (hl : l.stackTraces = false) (d : Nat) (L : List o_C) (b : Nat) (hb : L.length = b) (hlt : b < 800000) (hok : o_ok (b + 1) (o_hL (L ++ [.inr (9, [.null, .null])]))) : o_Ct l yX1_init wX1_init (d + 1) (x_al b) [.ref b] (b + 1) (o_hL (L ++ [.inr (9, [.null, .null])])) 1 3 (x_is (b + 2) (o_hL (L ++ x_c1 b))) := by
  refine o_Ct.ofV hl mX1_init (by decide +kernel) rfl rfl rfl (Nat.le_of_ble_eq_true rfl) ?_
  refine o_aload_n dX1_init_0 rfl ?_
  refine o_oi dX1_init_1 (o_gT (i := 241) (by decide +kernel) rfl) (o_gT (i := 46) (by decide +kernel) rfl) (o_gT (i := 47) (by decide +kernel) rfl) (by decide) ?_
  refine o_aload_n dX1_init_4 rfl ?_
  refine o_gs (v := .ref 1000000) dX1_init_5 (o_gT (i := 242) (by decide +kernel) rfl) (fun Z ad s9 E => (z_kw (i := 0) (q := ("SHIP", 37, 38, 0)) rfl Z ad s9 E).1) ?_
  refine o_pf (k := 0) dX1_init_8 fp_X1_15 (o_h0 hb) (by omega) (Nat.le_of_ble_eq_true rfl) (fun _ => rfl) (fun _ => rfl) rfl ?_
  have ok0 := x_okP (k := 0) (v := .ref 1000000) hb (by omega) hok (fun r e => by cases e; exact Or.inr (Nat.le_refl _))
  rw [o_hU hb]
  change o_V _ _ _ _ _ _ _ _ _ (o_hL (L ++ (.inr (9, [.ref 1000000, .null]) :: []))) _ _
  change o_ok _ (o_hL (L ++ (.inr (9, [.ref 1000000, .null]) :: []))) at ok0
  refine o_aload_n dX1_init_11 rfl ?_
  refine o_iconst dX1_init_12 ?_
  refine o_newa (N := 3) (t := 0) (x := (3, .inl (fun _ => o_I 0))) ok0 (by omega) ⟨by omega, by omega⟩ dX1_init_13 rfl rfl (o_gT (i := 82) (by decide +kernel) rfl) (fun _ => rfl) (fun _ => rfl) trivial (by decide) (x_rf (by omega) (fun v hv k hk => by simp only [List.mem_cons, List.not_mem_nil, or_false] at hv; subst hv; cases hk; omega)) (by omega) (by omega) (fun ok1 => ?_)
  rw [o_hA (L := L) (R := (.inr (9, [.ref 1000000, .null]) :: [])) (by rw [List.length_append, hb]; rfl)] at ok1 ⊢
  change o_V _ _ _ _ _ _ _ _ _ (o_hL (L ++ (.inr (9, [.ref 1000000, .null]) :: x_ai 3 :: []))) _ _
  change o_ok _ (o_hL (L ++ (.inr (9, [.ref 1000000, .null]) :: x_ai 3 :: []))) at ok1
  refine o_putF (ci := 9) (k9 := 1) (C := RX1) (T := TX1) (N := 2) dX1_init_15 (by omega) (o_h0 hb) rfl (by decide) (o_gT (i := 247) (by decide +kernel) rfl) rfl rfl rfl (tyX1_ok 1 (by decide)) (Nat.le_of_ble_eq_true rfl) (fun _ => rfl) (fun _ => rfl) ?_
  have ok2 := x_okP (k := 1) (v := .ref (b + 1)) hb (by omega) ok1 (fun r e => by cases e; exact Or.inl (by omega))
  rw [o_hU hb]
  change o_V _ _ _ _ _ _ _ _ _ (o_hL (L ++ (.inr (9, [.ref 1000000, .ref (b + 1)]) :: x_ai 3 :: []))) _ _
  change o_ok _ (o_hL (L ++ (.inr (9, [.ref 1000000, .ref (b + 1)]) :: x_ai 3 :: []))) at ok2
  refine o_ret0 dX1_init_18 trivial ?_
  exact ⟨rfl, rfl, rfl, ok2⟩
def x_cJ (b : Nat) : List o_C := .inr (11, [.ref (b + 1), .int (o_I 0), .int (o_I 0), .int (o_I 0)]) :: x_ab 16 :: []
set_option maxRecDepth 100000 in
set_option maxHeartbeats 4000000 in
/-- new AbstractStringBuilder(16) -/
theorem ct_J5_init_d00df {l : Launch} (hl : l.stackTraces = false) (d : Nat) (L : List o_C) (b : Nat) (hb : L.length = b) (hlt : b < 800000) (hok : o_ok (b + 1) (o_hL (L ++ [.inr (11, [.null, .int (o_I 0), .int (o_I 0), .int (o_I 0)])]))) : o_Ct l yJ5_init_d00df wJ5_init_d00df (d + 1) (x_al b) [.ref b, .int (o_I 16)] (b + 1) (o_hL (L ++ [.inr (11, [.null, .int (o_I 0), .int (o_I 0), .int (o_I 0)])])) 1 16 (x_is (b + 2) (o_hL (L ++ x_cJ b))) := by
  refine o_Ct.ofV hl mJ5_init_d00df (by decide +kernel) rfl rfl rfl (Nat.le_of_ble_eq_true rfl) ?_
  refine o_aload_n dJ5_init_d00df_0 rfl ?_
  refine o_oi dJ5_init_d00df_1 (o_gT (i := 282) (by decide +kernel) rfl) (o_gT (i := 46) (by decide +kernel) rfl) (o_gT (i := 47) (by decide +kernel) rfl) (by decide) ?_
  refine o_gs (v := .int (o_I 1)) dJ5_init_d00df_4 (o_gT (i := 283) (by decide +kernel) rfl) z_C ?_
  refine o_if_eq (tgt := 25) dJ5_init_d00df_7 (by decide) ⟨by omega, by omega⟩ (fun c => absurd c (by decide)) (fun _ => ?_)
  refine o_aload_n dJ5_init_d00df_10 rfl ?_
  refine o_iload_n dJ5_init_d00df_11 rfl ?_
  refine o_newa (N := 16) (t := 3) (x := (16, .inl (fun _ => o_I 0))) hok (by omega) ⟨by omega, by omega⟩ dJ5_init_d00df_12 rfl rfl (o_gT (i := 306) (by decide +kernel) rfl) (fun _ => rfl) (fun _ => rfl) trivial (by decide) (x_rf2 (fun k z => by cases z) (by omega) (fun v hv k hk => by simp only [List.mem_cons, List.not_mem_nil, or_false] at hv; subst hv; cases hk; omega)) (by omega) (by omega) (fun ok0 => ?_)
  rw [o_hA (L := L) (R := (.inr (11, [.null, .int (o_I 0), .int (o_I 0), .int (o_I 0)]) :: [])) (by rw [List.length_append, hb]; rfl)] at ok0 ⊢
  change o_V _ _ _ _ _ _ _ _ _ (o_hL (L ++ (.inr (11, [.null, .int (o_I 0), .int (o_I 0), .int (o_I 0)]) :: x_ab 16 :: []))) _ _
  change o_ok _ (o_hL (L ++ (.inr (11, [.null, .int (o_I 0), .int (o_I 0), .int (o_I 0)]) :: x_ab 16 :: []))) at ok0
  refine o_pf (k := 0) dJ5_init_d00df_14 fp_J5_15 (o_h0 hb) (by omega) (Nat.le_of_ble_eq_true rfl) (fun _ => rfl) (fun _ => rfl) rfl ?_
  have ok1 := x_okP (k := 0) (v := .ref (b + 1)) hb (by omega) ok0 (fun r e => by cases e; exact Or.inl (by omega))
  rw [o_hU hb]
  change o_V _ _ _ _ _ _ _ _ _ (o_hL (L ++ (.inr (11, [.ref (b + 1), .int (o_I 0), .int (o_I 0), .int (o_I 0)]) :: x_ab 16 :: []))) _ _
  change o_ok _ (o_hL (L ++ (.inr (11, [.ref (b + 1), .int (o_I 0), .int (o_I 0), .int (o_I 0)]) :: x_ab 16 :: []))) at ok1
  refine o_aload_n dJ5_init_d00df_17 rfl ?_
  refine o_iconst dJ5_init_d00df_18 ?_
  refine o_pf (k := 1) dJ5_init_d00df_19 fp_J5_22 (o_h0 hb) (by omega) (Nat.le_of_ble_eq_true rfl) (fun _ => rfl) (fun _ => rfl) rfl ?_
  have ok2 := x_okP (k := 1) (v := .int (o_I 0)) hb (by omega) ok1 (fun r e => by cases e)
  rw [o_hU hb]
  change o_V _ _ _ _ _ _ _ _ _ (o_hL (L ++ (.inr (11, [.ref (b + 1), .int (o_I 0), .int (o_I 0), .int (o_I 0)]) :: x_ab 16 :: []))) _ _
  change o_ok _ (o_hL (L ++ (.inr (11, [.ref (b + 1), .int (o_I 0), .int (o_I 0), .int (o_I 0)]) :: x_ab 16 :: []))) at ok2
  refine o_goto (tgt := 38) dJ5_init_d00df_22 (by decide) ?_
  refine o_ret0 dJ5_init_d00df_38 trivial ?_
  exact ⟨rfl, rfl, rfl, ok2⟩
set_option maxRecDepth 100000 in
set_option maxHeartbeats 4000000 in
/-- new StringBuilder() -/
theorem ct_J4_init_da8c8 {l : Launch} (hl : l.stackTraces = false) (d : Nat) (L : List o_C) (b : Nat) (hb : L.length = b) (hlt : b < 800000) (hok : o_ok (b + 1) (o_hL (L ++ [.inr (11, [.null, .int (o_I 0), .int (o_I 0), .int (o_I 0)])]))) : o_Ct l yJ4_init_da8c8 wJ4_init_da8c8 (d + 2) (x_al b) [.ref b] (b + 1) (o_hL (L ++ [.inr (11, [.null, .int (o_I 0), .int (o_I 0), .int (o_I 0)])])) 1 16 (x_is (b + 2) (o_hL (L ++ x_cJ b))) := by
  refine o_Ct.ofV hl mJ4_init_da8c8 (by decide +kernel) rfl rfl rfl (Nat.le_of_ble_eq_true rfl) ?_
  refine o_aload_n dJ4_init_da8c8_0 rfl ?_
  refine o_bipush dJ4_init_da8c8_1 (by decide) ?_
  refine o_callI (aly := x_al b) [.int (o_I 16)] (ct_J5_init_d00df hl d L b hb hlt hok) dJ4_init_da8c8_3 ml_J4_1 yi_J5_init_d00df rfl rfl (by decide) (by omega) (by omega) (by omega) rfl (Nat.le_of_ble_eq_true rfl) (fun k hk => hk) (fun k hk => hk.2) (x_fr (b := b) (fun q hq k hk => by rcases List.mem_singleton.mp hq with rfl; cases hk; omega) (fun v hv k hk => by cases hv)) (fun v9 n9 h9 q9 => ?_) (fun E n9 h9 q9 => by cases q9.1)
  obtain ⟨q91, q92, q93, ok1⟩ := q9
  subst q92
  subst q93
  cases q91
  refine o_ret0 dJ4_init_da8c8_6 trivial ?_
  exact ⟨rfl, rfl, rfl, ok1⟩
