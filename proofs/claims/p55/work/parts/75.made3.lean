/-! making the history, the texts, the office -/
def x_cS (b : Nat) : Nat → List o_C
  | 0 => []
  | i + 1 => x_cS b i ++ x_c10 (b + 14 * i)
def x_cC (b : Nat) : Nat → List o_C
  | 0 => []
  | i + 1 => x_cC b i ++ x_c1 (b + 2 * i)
theorem x_cS_l (b : Nat) : ∀ i, (x_cS b i).length = 14 * i
  | 0 => rfl
  | i + 1 => by
    show (x_cS b i ++ x_c10 (b + 14 * i)).length = _
    rw [List.length_append, x_cS_l b i]; rfl
theorem x_cC_l (b : Nat) : ∀ i, (x_cC b i).length = 2 * i
  | 0 => rfl
  | i + 1 => by
    show (x_cC b i ++ x_c1 (b + 2 * i)).length = _
    rw [List.length_append, x_cC_l b i]; rfl
def x_rng (b s i : Nat) : Nat → Option Nat := fun j => if j < i then some (b + s * j) else none
theorem x_rng_0 (b s : Nat) : x_rng b s 0 = fun _ => none := by funext j; unfold x_rng; rw [if_neg (Nat.not_lt_zero j)]
theorem x_rng_s (b s i : Nat) : va_up (x_rng b s i) ((i : Nat) : Int).toNat (some (b + s * i)) = x_rng b s (i + 1) := by
  funext j
  unfold va_up x_rng
  rw [Int.toNat_natCast]
  by_cases h : j = i
  · rw [if_pos h, if_pos (by omega), h]
  · rw [if_neg h]
    by_cases h2 : j < i
    · rw [if_pos h2, if_pos (by omega)]
    · rw [if_neg h2, if_neg (by omega)]
def x_c5 (b : Nat) : List o_C := .inr (5, [.ref (b + 1), .int (o_I 0), .int (o_I 0)]) :: .inl (7, 8, .inr (.inr (.inr (.inr (x_rng (b + 2) 14 8))))) :: x_cS (b + 2) 8
set_option maxRecDepth 100000 in
set_option maxHeartbeats 4000000 in
/-- new History() -/
theorem ct_X5_init {l : Launch} (hl : l.stackTraces = false) (d : Nat) (L : List o_C) (b : Nat) (hb : L.length = b) (hlt : b < 700000) (hok : o_ok (b + 1) (o_hL (L ++ [.inr (5, [.null, .int (o_I 0), .int (o_I 0)])]))) : o_Ct l yX5_init wX5_init (d + 3) (x_al b) [.ref b] (b + 1) (o_hL (L ++ [.inr (5, [.null, .int (o_I 0), .int (o_I 0)])])) 113 760 (x_is (b + 114) (o_hL (L ++ x_c5 b))) := by
  refine o_Ct.ofV hl mX5_init (by decide +kernel) rfl rfl rfl (Nat.le_of_ble_eq_true rfl) ?_
  have key := o_lp (fun i => o_ok (b + 2 + 14 * i) (o_hL (L ++ (.inr (5, [.ref (b + 1), .int (o_I 0), .int (o_I 0)]) :: .inl (7, 8, .inr (.inr (.inr (.inr (x_rng (b + 2) 14 i))))) :: x_cS (b + 2) i))) → o_V l mX5_init (d + 3) (x_al b) (x_is (b + 114) (o_hL (L ++ x_c5 b))) 15 [(0, .ref b), (1, .int (o_I (i : Int)))] [] (b + 2 + 14 * i) (o_hL (L ++ (.inr (5, [.ref (b + 1), .int (o_I 0), .int (o_I 0)]) :: .inl (7, 8, .inr (.inr (.inr (.inr (x_rng (b + 2) 14 i))))) :: x_cS (b + 2) i))) (14 * (8 - i)) (94 * (8 - i))) 8 (fun i hi ih ok => by
    refine o_iload_n dX5_init_15 rfl ?_
    refine o_bipush dX5_init_16 (by decide) ?_
    refine o_icmp_ge (tgt := 40) dX5_init_18 (by decide) ⟨by omega, by omega⟩ ⟨by omega, by omega⟩ (fun c9 => ?_) (fun c9 => ?_)
    · have hi9 : i = 8 := by omega
      subst hi9
      refine o_ret0 dX5_init_40 trivial ?_
      exact ⟨rfl, rfl, rfl, ok⟩
    refine o_aload_n dX5_init_21 rfl ?_
    refine o_gf dX5_init_22 fl_X5_11 (o_h0 hb) (by omega) rfl ?_
    refine o_iload_n dX5_init_25 rfl ?_
    refine o_new (ci := 1) (N := 7) (C := RX10) (T := TX10) (fs := [.null, .null, .null, .int (o_I 0), .int (o_I 0), .int (o_I 0), .int (o_I 0)]) (ty := tyX10) ok (by omega) ⟨by omega, by omega⟩ dX5_init_26 (o_gT (i := 186) (by decide +kernel) rfl) (o_gT (i := 49) (by decide +kernel) rfl) (o_gT (i := 2) (by decide +kernel) rfl) rfl tyX10_ok (fun j hj => by rcases (by omega : j = 0 ∨ j = 1 ∨ j = 2 ∨ j = 3 ∨ j = 4 ∨ j = 5 ∨ j = 6) with rfl | rfl | rfl | rfl | rfl | rfl | rfl <;> rfl) (fun v hv r => by simp only [List.mem_cons, List.not_mem_nil, or_false] at hv; rcases hv with rfl | rfl | rfl | rfl | rfl | rfl | rfl <;> exact fun z => by cases z) (x_rf2 (fun k z => by cases z) (by omega) (fun v hv k hk => by simp only [List.mem_cons, List.not_mem_nil, or_false] at hv; rcases hv with rfl | rfl <;> cases hk; omega)) (by omega) (by omega) (fun ok1 => ?_)
    rw [o_hA (L := L) (R := .inr (5, [.ref (b + 1), .int (o_I 0), .int (o_I 0)]) :: .inl (7, 8, .inr (.inr (.inr (.inr (x_rng (b + 2) 14 i))))) :: x_cS (b + 2) i) (by simp only [List.length_append, List.length_cons, x_cS_l, hb]; omega), show L ++ ((.inr (5, [.ref (b + 1), .int (o_I 0), .int (o_I 0)]) :: .inl (7, 8, .inr (.inr (.inr (.inr (x_rng (b + 2) 14 i))))) :: x_cS (b + 2) i) ++ [.inr (1, [.null, .null, .null, .int (o_I 0), .int (o_I 0), .int (o_I 0), .int (o_I 0)])]) = (L ++ (.inr (5, [.ref (b + 1), .int (o_I 0), .int (o_I 0)]) :: .inl (7, 8, .inr (.inr (.inr (.inr (x_rng (b + 2) 14 i))))) :: x_cS (b + 2) i)) ++ [.inr (1, [.null, .null, .null, .int (o_I 0), .int (o_I 0), .int (o_I 0), .int (o_I 0)])] from (List.append_assoc _ _ _).symm] at ok1 ⊢
    refine o_dup dX5_init_29 rfl ?_
    have hC1 := ct_X10_init hl d (L ++ (.inr (5, [.ref (b + 1), .int (o_I 0), .int (o_I 0)]) :: .inl (7, 8, .inr (.inr (.inr (.inr (x_rng (b + 2) 14 i))))) :: x_cS (b + 2) i)) (b + 2 + 14 * i) (by simp only [List.length_append, List.length_cons, x_cS_l, hb]; omega) (by omega) ok1
    refine o_callIN (host := "LampLeaseOffice") (aly := x_al (b + 2 + 14 * i)) [] hC1 dX5_init_30 (List.Mem.tail _ (List.Mem.tail _ (List.Mem.tail _ (List.Mem.tail _ (List.Mem.head _))))) yi_X10_init rfl rfl (by decide) (by omega) (by omega) (by omega) rfl (Nat.le_of_ble_eq_true rfl) (fun k hk => ⟨by have := hk.1; omega, hk.2⟩) (fun k hk => hk.2) (x_fr (b := b) (fun q hq k hk => (List.mem_cons.mp hq).elim (fun e => by subst e; cases hk; omega) (fun e => by rcases List.mem_singleton.mp e with rfl; cases hk)) (fun v hv k hk => by simp only [List.mem_cons, List.not_mem_nil, or_false] at hv; rcases hv with rfl | rfl | rfl <;> cases hk <;> omega)) (fun v9 n9 h9 q9 => ?_) (fun E n9 h9 q9 => by cases q9.1)
    obtain ⟨q91, q92, q93, ok2⟩ := q9
    subst q92
    subst q93
    cases q91
    refine o_aast (b := b + 1) (r := (b + 2 + 14 * i)) (t := 7) (ci := 1) (len := 8) (f := x_rng (b + 2) 14 i) ok2 dX5_init_33 (by omega) (by omega) (by rw [List.append_assoc]; exact o_hG (A := [.inr (5, [.ref (b + 1), .int (o_I 0), .int (o_I 0)])]) (by simp only [List.length_append, List.length_cons, List.length_nil, hb])) (o_h0 (by simp only [List.length_append, List.length_cons, x_cS_l, hb]; omega)) rfl rfl (by decide) (by omega) (by omega) (fun ok3 => ?_)
    have e9 : ∀ c0 : o_C, o_up (o_hL ((L ++ (.inr (5, [.ref (b + 1), .int (o_I 0), .int (o_I 0)]) :: .inl (7, 8, .inr (.inr (.inr (.inr (x_rng (b + 2) 14 i))))) :: x_cS (b + 2) i)) ++ x_c10 (b + 2 + 14 * i))) (b + 1) c0 = o_hL (L ++ (.inr (5, [.ref (b + 1), .int (o_I 0), .int (o_I 0)]) :: c0 :: x_cS (b + 2) (i + 1))) := fun c0 => by rw [List.append_assoc]; exact o_hUG (A := [.inr (5, [.ref (b + 1), .int (o_I 0), .int (o_I 0)])]) (by simp only [List.length_append, List.length_cons, List.length_nil, hb]) c0
    rw [e9, x_rng_s] at ok3 ⊢
    refine o_iinc dX5_init_34 rfl (by decide) ?_
    refine o_goto (tgt := 15) dX5_init_37 (by decide) ?_
    rw [show (b + 2 + 14 * i) + 14 = b + 2 + 14 * (i + 1) by omega] at ok3 ⊢
    exact o_loc [(0, .ref b), (1, .int (o_I ((i + 1 : Nat) : Int)))] rfl (o_V.mc (ih (by omega) ok3) (by omega) (by omega)))
  refine o_aload_n dX5_init_0 rfl ?_
  refine o_oi dX5_init_1 (o_gT (i := 185) (by decide +kernel) rfl) (o_gT (i := 46) (by decide +kernel) rfl) (o_gT (i := 47) (by decide +kernel) rfl) (by decide) ?_
  refine o_aload_n dX5_init_4 rfl ?_
  refine o_bipush dX5_init_5 (by decide) ?_
  refine o_newq (t := 7) (N := 8) (C := RX10) hok (by omega) ⟨by omega, by omega⟩ dX5_init_7 (by decide) rfl (o_gT (i := 186) (by decide +kernel) rfl) (by decide) (x_rf (by omega) (fun v hv k hk => by simp only [List.mem_cons, List.not_mem_nil, or_false] at hv; subst hv; cases hk; omega)) (by omega) (by omega) (fun ok0 => ?_)
  rw [o_hA (L := L) (R := (.inr (5, [.null, .int (o_I 0), .int (o_I 0)]) :: [])) (by rw [List.length_append, hb]; rfl)] at ok0 ⊢
  change o_V _ _ _ _ _ _ _ _ _ (o_hL (L ++ (.inr (5, [.null, .int (o_I 0), .int (o_I 0)]) :: .inl (7, 8, .inr (.inr (.inr (.inr (fun _ => none))))) :: []))) _ _
  change o_ok _ (o_hL (L ++ (.inr (5, [.null, .int (o_I 0), .int (o_I 0)]) :: .inl (7, 8, .inr (.inr (.inr (.inr (fun _ => none))))) :: []))) at ok0
  refine o_putF (ci := 5) (k9 := 0) (C := RX5) (T := TX5) (N := 3) dX5_init_10 (by omega) (o_h0 hb) rfl (by decide) (o_gT (i := 189) (by decide +kernel) rfl) rfl rfl rfl (tyX5_ok 0 (by decide)) (Nat.le_of_ble_eq_true rfl) (fun _ => rfl) (fun _ => rfl) ?_
  have ok1 := x_okP (k := 0) (v := .ref (b + 1)) hb (by omega) ok0 (fun r e => by cases e; exact Or.inl (by omega))
  rw [o_hU hb]
  change o_V _ _ _ _ _ _ _ _ _ (o_hL (L ++ (.inr (5, [.ref (b + 1), .int (o_I 0), .int (o_I 0)]) :: .inl (7, 8, .inr (.inr (.inr (.inr (fun _ => none))))) :: []))) _ _
  change o_ok _ (o_hL (L ++ (.inr (5, [.ref (b + 1), .int (o_I 0), .int (o_I 0)]) :: .inl (7, 8, .inr (.inr (.inr (.inr (fun _ => none))))) :: []))) at ok1
  rw [← x_rng_0 (b + 2) 14] at ok1 ⊢
  refine o_iconst dX5_init_13 ?_
  refine o_istore_n dX5_init_14 (by decide) ?_
  exact o_loc _ rfl (o_V.mc (key 0 (by decide) ok1) (by omega) (by omega))
def x_c2 (b : Nat) : List o_C := .inr (8, [.ref (b + 1), .ref (b + 2), .int (o_I 0), .int (o_I 0), .int (o_I 0)]) :: x_ac 60 :: .inl (6, 12, .inr (.inr (.inr (.inr (x_rng (b + 3) 2 12))))) :: x_cC (b + 3) 12
set_option maxRecDepth 100000 in
set_option maxHeartbeats 4000000 in
/-- new CommandText() -/
theorem ct_X2_init {l : Launch} (hl : l.stackTraces = false) (d : Nat) (L : List o_C) (b : Nat) (hb : L.length = b) (hlt : b < 700000) (hok : o_ok (b + 1) (o_hL (L ++ [.inr (8, [.null, .null, .int (o_I 0), .int (o_I 0), .int (o_I 0)])]))) : o_Ct l yX2_init wX2_init (d + 3) (x_al b) [.ref b] (b + 1) (o_hL (L ++ [.inr (8, [.null, .null, .int (o_I 0), .int (o_I 0), .int (o_I 0)])])) 26 132 (x_is (b + 27) (o_hL (L ++ x_c2 b))) := by
  refine o_Ct.ofV hl mX2_init (by decide +kernel) rfl rfl rfl (Nat.le_of_ble_eq_true rfl) ?_
  have key := o_lp (fun i => o_ok (b + 3 + 2 * i) (o_hL (L ++ (.inr (8, [.ref (b + 1), .ref (b + 2), .int (o_I 0), .int (o_I 0), .int (o_I 0)]) :: x_ac 60 :: .inl (6, 12, .inr (.inr (.inr (.inr (x_rng (b + 3) 2 i))))) :: x_cC (b + 3) i))) → o_V l mX2_init (d + 3) (x_al b) (x_is (b + 27) (o_hL (L ++ x_c2 b))) 23 [(0, .ref b), (1, .int (o_I (i : Int)))] [] (b + 3 + 2 * i) (o_hL (L ++ (.inr (8, [.ref (b + 1), .ref (b + 2), .int (o_I 0), .int (o_I 0), .int (o_I 0)]) :: x_ac 60 :: .inl (6, 12, .inr (.inr (.inr (.inr (x_rng (b + 3) 2 i))))) :: x_cC (b + 3) i))) (2 * (12 - i)) (5 * (12 - i))) 12 (fun i hi ih ok => by
    refine o_iload_n dX2_init_23 rfl ?_
    refine o_bipush dX2_init_24 (by decide) ?_
    refine o_icmp_ge (tgt := 48) dX2_init_26 (by decide) ⟨by omega, by omega⟩ ⟨by omega, by omega⟩ (fun c9 => ?_) (fun c9 => ?_)
    · have hi9 : i = 12 := by omega
      subst hi9
      refine o_ret0 dX2_init_48 trivial ?_
      exact ⟨rfl, rfl, rfl, ok⟩
    refine o_aload_n dX2_init_29 rfl ?_
    refine o_gf dX2_init_30 fl_X2_17 (o_h0 hb) (by omega) rfl ?_
    refine o_iload_n dX2_init_33 rfl ?_
    refine o_new (ci := 9) (N := 2) (C := RX1) (T := TX1) (fs := [.null, .null]) (ty := tyX1) ok (by omega) ⟨by omega, by omega⟩ dX2_init_34 (o_gT (i := 235) (by decide +kernel) rfl) (o_gT (i := 237) (by decide +kernel) rfl) (o_gT (i := 10) (by decide +kernel) rfl) rfl tyX1_ok (fun j hj => by rcases (by omega : j = 0 ∨ j = 1) with rfl | rfl <;> rfl) (fun v hv r => by simp only [List.mem_cons, List.not_mem_nil, or_false] at hv; rcases hv with rfl | rfl <;> exact fun z => by cases z) (x_rf2 (fun k z => by cases z) (by omega) (fun v hv k hk => by simp only [List.mem_cons, List.not_mem_nil, or_false] at hv; rcases hv with rfl | rfl <;> cases hk; omega)) (by omega) (by omega) (fun ok1 => ?_)
    rw [o_hA (L := L) (R := .inr (8, [.ref (b + 1), .ref (b + 2), .int (o_I 0), .int (o_I 0), .int (o_I 0)]) :: x_ac 60 :: .inl (6, 12, .inr (.inr (.inr (.inr (x_rng (b + 3) 2 i))))) :: x_cC (b + 3) i) (by simp only [List.length_append, List.length_cons, x_cC_l, hb]; omega), show L ++ ((.inr (8, [.ref (b + 1), .ref (b + 2), .int (o_I 0), .int (o_I 0), .int (o_I 0)]) :: x_ac 60 :: .inl (6, 12, .inr (.inr (.inr (.inr (x_rng (b + 3) 2 i))))) :: x_cC (b + 3) i) ++ [.inr (9, [.null, .null])]) = (L ++ (.inr (8, [.ref (b + 1), .ref (b + 2), .int (o_I 0), .int (o_I 0), .int (o_I 0)]) :: x_ac 60 :: .inl (6, 12, .inr (.inr (.inr (.inr (x_rng (b + 3) 2 i))))) :: x_cC (b + 3) i)) ++ [.inr (9, [.null, .null])] from (List.append_assoc _ _ _).symm] at ok1 ⊢
    refine o_dup dX2_init_37 rfl ?_
    have hC1 := ct_X1_init hl d (L ++ (.inr (8, [.ref (b + 1), .ref (b + 2), .int (o_I 0), .int (o_I 0), .int (o_I 0)]) :: x_ac 60 :: .inl (6, 12, .inr (.inr (.inr (.inr (x_rng (b + 3) 2 i))))) :: x_cC (b + 3) i)) (b + 3 + 2 * i) (by simp only [List.length_append, List.length_cons, x_cC_l, hb]; omega) (by omega) ok1
    refine o_callIN (host := "LampLeaseOffice") (aly := x_al (b + 3 + 2 * i)) [] hC1 dX2_init_38 (List.Mem.tail _ (List.Mem.tail _ (List.Mem.tail _ (List.Mem.tail _ (List.Mem.tail _ (List.Mem.tail _ (List.Mem.tail _ (List.Mem.head _)))))))) yi_X1_init rfl rfl (by decide) (by omega) (by omega) (by omega) rfl (Nat.le_of_ble_eq_true rfl) (fun k hk => ⟨by have := hk.1; omega, hk.2⟩) (fun k hk => hk.2) (x_fr (b := b) (fun q hq k hk => (List.mem_cons.mp hq).elim (fun e => by subst e; cases hk; omega) (fun e => by rcases List.mem_singleton.mp e with rfl; cases hk)) (fun v hv k hk => by simp only [List.mem_cons, List.not_mem_nil, or_false] at hv; rcases hv with rfl | rfl | rfl <;> cases hk <;> omega)) (fun v9 n9 h9 q9 => ?_) (fun E n9 h9 q9 => by cases q9.1)
    obtain ⟨q91, q92, q93, ok2⟩ := q9
    subst q92
    subst q93
    cases q91
    refine o_aast (b := b + 2) (r := (b + 3 + 2 * i)) (t := 6) (ci := 9) (len := 12) (f := x_rng (b + 3) 2 i) ok2 dX2_init_41 (by omega) (by omega) (by rw [List.append_assoc]; exact o_hG (A := [.inr (8, [.ref (b + 1), .ref (b + 2), .int (o_I 0), .int (o_I 0), .int (o_I 0)]), x_ac 60]) (by simp only [List.length_append, List.length_cons, List.length_nil, hb])) (o_h0 (by simp only [List.length_append, List.length_cons, x_cC_l, hb]; omega)) rfl rfl (by decide) (by omega) (by omega) (fun ok3 => ?_)
    have e9 : ∀ c0 : o_C, o_up (o_hL ((L ++ (.inr (8, [.ref (b + 1), .ref (b + 2), .int (o_I 0), .int (o_I 0), .int (o_I 0)]) :: x_ac 60 :: .inl (6, 12, .inr (.inr (.inr (.inr (x_rng (b + 3) 2 i))))) :: x_cC (b + 3) i)) ++ x_c1 (b + 3 + 2 * i))) (b + 2) c0 = o_hL (L ++ (.inr (8, [.ref (b + 1), .ref (b + 2), .int (o_I 0), .int (o_I 0), .int (o_I 0)]) :: x_ac 60 :: c0 :: x_cC (b + 3) (i + 1))) := fun c0 => by rw [List.append_assoc]; exact o_hUG (A := [.inr (8, [.ref (b + 1), .ref (b + 2), .int (o_I 0), .int (o_I 0), .int (o_I 0)]), x_ac 60]) (by simp only [List.length_append, List.length_cons, List.length_nil, hb]) c0
    rw [e9, x_rng_s] at ok3 ⊢
    refine o_iinc dX2_init_42 rfl (by decide) ?_
    refine o_goto (tgt := 23) dX2_init_45 (by decide) ?_
    rw [show (b + 3 + 2 * i) + 2 = b + 3 + 2 * (i + 1) by omega] at ok3 ⊢
    exact o_loc [(0, .ref b), (1, .int (o_I ((i + 1 : Nat) : Int)))] rfl (o_V.mc (ih (by omega) ok3) (by omega) (by omega)))
  refine o_aload_n dX2_init_0 rfl ?_
  refine o_oi dX2_init_1 (o_gT (i := 234) (by decide +kernel) rfl) (o_gT (i := 46) (by decide +kernel) rfl) (o_gT (i := 47) (by decide +kernel) rfl) (by decide) ?_
  refine o_aload_n dX2_init_4 rfl ?_
  refine o_bipush dX2_init_5 (by decide) ?_
  refine o_newa (N := 60) (t := 2) (x := (60, .inl (fun _ => o_I 0))) hok (by omega) ⟨by omega, by omega⟩ dX2_init_7 rfl rfl (o_gT (i := 253) (by decide +kernel) rfl) (fun _ => rfl) (fun _ => rfl) trivial (by decide) (x_rf (by omega) (fun v hv k hk => by simp only [List.mem_cons, List.not_mem_nil, or_false] at hv; subst hv; cases hk; omega)) (by omega) (by omega) (fun ok0 => ?_)
  rw [o_hA (L := L) (R := (.inr (8, [.null, .null, .int (o_I 0), .int (o_I 0), .int (o_I 0)]) :: [])) (by rw [List.length_append, hb]; rfl)] at ok0 ⊢
  change o_V _ _ _ _ _ _ _ _ _ (o_hL (L ++ (.inr (8, [.null, .null, .int (o_I 0), .int (o_I 0), .int (o_I 0)]) :: x_ac 60 :: []))) _ _
  change o_ok _ (o_hL (L ++ (.inr (8, [.null, .null, .int (o_I 0), .int (o_I 0), .int (o_I 0)]) :: x_ac 60 :: []))) at ok0
  refine o_putF (ci := 8) (k9 := 0) (C := RX2) (T := TX2) (N := 5) dX2_init_9 (by omega) (o_h0 hb) rfl (by decide) (o_gT (i := 254) (by decide +kernel) rfl) rfl rfl rfl (tyX2_ok 0 (by decide)) (Nat.le_of_ble_eq_true rfl) (fun _ => rfl) (fun _ => rfl) ?_
  have ok1 := x_okP (k := 0) (v := .ref (b + 1)) hb (by omega) ok0 (fun r e => by cases e; exact Or.inl (by omega))
  rw [o_hU hb]
  change o_V _ _ _ _ _ _ _ _ _ (o_hL (L ++ (.inr (8, [.ref (b + 1), .null, .int (o_I 0), .int (o_I 0), .int (o_I 0)]) :: x_ac 60 :: []))) _ _
  change o_ok _ (o_hL (L ++ (.inr (8, [.ref (b + 1), .null, .int (o_I 0), .int (o_I 0), .int (o_I 0)]) :: x_ac 60 :: []))) at ok1
  refine o_aload_n dX2_init_12 rfl ?_
  refine o_bipush dX2_init_13 (by decide) ?_
  refine o_newq (t := 6) (N := 12) (C := RX1) ok1 (by omega) ⟨by omega, by omega⟩ dX2_init_15 (by decide) rfl (o_gT (i := 235) (by decide +kernel) rfl) (by decide) (x_rf (by omega) (fun v hv k hk => by simp only [List.mem_cons, List.not_mem_nil, or_false] at hv; subst hv; cases hk; omega)) (by omega) (by omega) (fun ok2 => ?_)
  rw [o_hA (L := L) (R := (.inr (8, [.ref (b + 1), .null, .int (o_I 0), .int (o_I 0), .int (o_I 0)]) :: x_ac 60 :: [])) (by rw [List.length_append, hb]; rfl)] at ok2 ⊢
  change o_V _ _ _ _ _ _ _ _ _ (o_hL (L ++ (.inr (8, [.ref (b + 1), .null, .int (o_I 0), .int (o_I 0), .int (o_I 0)]) :: x_ac 60 :: .inl (6, 12, .inr (.inr (.inr (.inr (fun _ => none))))) :: []))) _ _
  change o_ok _ (o_hL (L ++ (.inr (8, [.ref (b + 1), .null, .int (o_I 0), .int (o_I 0), .int (o_I 0)]) :: x_ac 60 :: .inl (6, 12, .inr (.inr (.inr (.inr (fun _ => none))))) :: []))) at ok2
  refine o_putF (ci := 8) (k9 := 1) (C := RX2) (T := TX2) (N := 5) dX2_init_18 (by omega) (o_h0 hb) rfl (by decide) (o_gT (i := 255) (by decide +kernel) rfl) rfl rfl rfl (tyX2_ok 1 (by decide)) (Nat.le_of_ble_eq_true rfl) (fun _ => rfl) (fun _ => rfl) ?_
  have ok3 := x_okP (k := 1) (v := .ref (b + 2)) hb (by omega) ok2 (fun r e => by cases e; exact Or.inl (by omega))
  rw [o_hU hb]
  change o_V _ _ _ _ _ _ _ _ _ (o_hL (L ++ (.inr (8, [.ref (b + 1), .ref (b + 2), .int (o_I 0), .int (o_I 0), .int (o_I 0)]) :: x_ac 60 :: .inl (6, 12, .inr (.inr (.inr (.inr (fun _ => none))))) :: []))) _ _
  change o_ok _ (o_hL (L ++ (.inr (8, [.ref (b + 1), .ref (b + 2), .int (o_I 0), .int (o_I 0), .int (o_I 0)]) :: x_ac 60 :: .inl (6, 12, .inr (.inr (.inr (.inr (fun _ => none))))) :: []))) at ok3
  rw [← x_rng_0 (b + 3) 2] at ok3 ⊢
  refine o_iconst dX2_init_21 ?_
  refine o_istore_n dX2_init_22 (by decide) ?_
  exact o_loc _ rfl (o_V.mc (key 0 (by decide) ok3) (by omega) (by omega))
