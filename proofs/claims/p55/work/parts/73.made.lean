/-! making the objects -/
def o_hL (L : List o_C) : Nat → o_C := fun k => L.getD k (.inr (0, []))
theorem o_hA {L R : List o_C} {n : Nat} (hn : (L ++ R).length = n) (c : o_C) : o_up (o_hL (L ++ R)) n c = o_hL (L ++ (R ++ [c])) := by
  rw [← List.append_assoc]
  funext k
  unfold o_up o_hL
  by_cases h : k = n
  · rw [if_pos h, h, ← hn, List.getD_eq_getElem?_getD, List.getElem?_append_right (Nat.le_refl _), Nat.sub_self]; rfl
  · rw [if_neg h, List.getD_eq_getElem?_getD, List.getD_eq_getElem?_getD]
    by_cases h2 : k < (L ++ R).length
    · rw [List.getElem?_append_left h2]
    · rw [List.getElem?_eq_none (by omega), List.getElem?_eq_none (by rw [List.length_append, List.length_singleton]; omega)]
theorem o_h0 {L R : List o_C} {c0 : o_C} {b : Nat} (hb : L.length = b) : o_hL (L ++ c0 :: R) b = c0 := by
  unfold o_hL
  rw [List.getD_eq_getElem?_getD, List.getElem?_append_right (by omega), show b - L.length = 0 by omega]; rfl
theorem o_hU {L R : List o_C} {c0 : o_C} {b : Nat} (hb : L.length = b) (c : o_C) : o_up (o_hL (L ++ c0 :: R)) b c = o_hL (L ++ c :: R) := by
  funext k
  unfold o_up
  by_cases h : k = b
  · rw [if_pos h, h, o_h0 hb]
  · rw [if_neg h]
    unfold o_hL
    rw [List.getD_eq_getElem?_getD, List.getD_eq_getElem?_getD]
    by_cases h2 : k < L.length
    · rw [List.getElem?_append_left h2, List.getElem?_append_left h2]
    · rw [List.getElem?_append_right (by omega), List.getElem?_append_right (by omega)]
      obtain ⟨j, hj⟩ : ∃ j, k - L.length = j + 1 := ⟨k - L.length - 1, by omega⟩
      rw [hj, List.getElem?_cons_succ, List.getElem?_cons_succ]
theorem x_okP {L R : List o_C} {ci k b n : Nat} {fs : List Value} {v : Value} (hb : L.length = b) (hn : b < n) (h : o_ok n (o_hL (L ++ .inr (ci, fs) :: R))) (hv : ∀ r : Nat, v = .ref r → r < n ∨ 1000000 ≤ r) : o_ok n (o_hL (L ++ .inr (ci, fs.set k v) :: R)) := by
  rw [← o_hU (c0 := .inr (ci, fs)) hb]
  refine h.up ?_
  have h0 := h b hn
  rw [o_h0 hb] at h0
  intro w hw r e
  rcases List.mem_or_eq_of_mem_set hw with q | q
  · exact h0 w q r e
  · exact hv r (q ▸ e)
def x_is (n : Nat) (h : Nat → o_C) : o_P := fun o n' h' => o = .inl none ∧ n' = n ∧ h' = h ∧ o_ok n h
def x_al (b : Nat) : Nat → Prop := fun k => b < k ∧ k < 1000000
theorem x_rf {b n : Nat} {st : List Value} (hb : b < n) (h : ∀ v ∈ st, ∀ k : Nat, v = .ref k → k < n) : o_refs n [(0, .ref b)] st := by
  refine ⟨fun q hq k hk => ?_, fun v hv k hk => by have := h v hv k hk; omega⟩
  rcases List.mem_singleton.mp hq with rfl
  cases hk
  omega
theorem x_rf2 {b n : Nat} {x : Value} {st : List Value} (hx : ∀ k : Nat, x ≠ .ref k) (hb : b < n) (h : ∀ v ∈ st, ∀ k : Nat, v = .ref k → k < n) : o_refs n [(0, .ref b), (1, x)] st := by
  refine ⟨fun q hq k hk => ?_, fun v hv k hk => by have := h v hv k hk; omega⟩
  rcases List.mem_cons.mp hq with rfl | hq
  · cases hk; omega
  · rcases List.mem_singleton.mp hq with rfl
    exact absurd hk (hx k)
theorem x_fr {b n : Nat} {ls : List (Nat × Value)} {st : List Value} (hls : ∀ q ∈ ls, ∀ k : Nat, q.2 = .ref k → k ≤ n) (hst : ∀ v ∈ st, ∀ k : Nat, v = .ref k → k ≤ n) : (∀ k, ¬ x_al n k) ∨ ((∀ q ∈ ls, ∀ k : Nat, q.2 = .ref k → ¬ x_al n k) ∧ ∀ v ∈ st, ∀ k : Nat, v = .ref k → ¬ x_al n k) :=
  Or.inr ⟨fun q hq k hk z => by have := hls q hq k hk; have := z.1; omega, fun v hv k hk z => by have := hst v hv k hk; have := z.1; omega⟩
/-- a cell's array of references, where it agrees within its length -/
theorem o_hcq {l : Launch} {M : o_M} {d : Nat} {al : Nat → Prop} {post : o_P} {pc : Nat} {ls : List (Nat × Value)} {st : List Value} {n : Nat} {h h' : Nat → o_C} {mc ms b t N : Nat} {f f' : Nat → Option Nat} (e1 : h b = .inl (t, N, .inr (.inr (.inr (.inr f))))) (e2 : h' b = .inl (t, N, .inr (.inr (.inr (.inr f'))))) (ef : ∀ j, j < N → f j = f' j) (eh : ∀ k, k < n → k ≠ b → h k = h' k) (k : o_V l M d al post pc ls st n h' mc ms) : o_V l M d al post pc ls st n h mc ms := by
  intro Z p e R s m args below meth c ad H locs cells slots MC MS la Q X E S P
  have hg : ∀ (i : Nat) (q : Nat × va_E), (o_rW ad Z.2.2.1 n h')[i]? = some q → ∃ q0, (o_rW ad Z.2.2.1 n h)[i]? = some q0 ∧ q0.1 = q.1 ∧ (va_at Z.2.1 o_cl q0 H → va_at Z.2.1 o_cl q H) := by
    intro i q hq
    unfold o_rW at hq ⊢
    rw [List.getElem?_map] at hq ⊢
    by_cases hi : i < n
    · rw [List.getElem?_range hi] at hq ⊢
      cases hq
      refine ⟨_, rfl, rfl, ?_⟩
      by_cases hb : i = b
      · subst hb
        intro hv
        have hv : va_at Z.2.1 o_cl (ad i, o_rC ad Z.2.2.1 (h i)) H := hv
        show va_at Z.2.1 o_cl (ad i, o_rC ad Z.2.2.1 (h' i)) H
        rw [e1] at hv
        rw [e2]
        show H[ad i]? = some (arrV (Z.2.2.1 t) N (fun j => va_rf ((f' j).map ad)))
        have hv : H[ad i]? = some (arrV (Z.2.2.1 t) N (fun j => va_rf ((f j).map ad))) := hv
        rw [hv]
        unfold arrV
        congr 2
        congr 1
        funext j
        show va_rf (Option.map ad (f j.val)) = va_rf (Option.map ad (f' j.val))
        rw [ef j.val j.isLt]
      · show va_at Z.2.1 o_cl (ad i, o_rC ad Z.2.2.1 (h i)) H → va_at Z.2.1 o_cl (ad i, o_rC ad Z.2.2.1 (h' i)) H
        rw [eh i hi hb]; exact id
    · rw [List.getElem?_eq_none (by rw [List.length_range]; omega)] at hq
      cases hq
  exact k Z p e R s m args below meth c ad H locs cells slots MC MS la Q X E S ⟨fun i q hq => by
    obtain ⟨q0, h1, -, h3⟩ := hg i q hq
    exact h3 (P.1 i q0 h1), fun i j p q hi hj e => by
    obtain ⟨p0, a1, a2, -⟩ := hg i p hi
    obtain ⟨q0, b1, b2, -⟩ := hg j q hj
    exact P.2.1 i j p0 q0 a1 b1 (by rw [a2, b2]; exact e), fun i q hq => by
    obtain ⟨q0, h1, h2, -⟩ := hg i q hq
    have := P.2.2 i q0 h1
    rw [h2] at this
    exact this⟩
def x_ai (N : Nat) : o_C := .inl (0, N, .inl (fun _ => o_I 0))
def x_az (N : Nat) : o_C := .inl (1, N, .inl (fun _ => o_I 0))
def x_ac (N : Nat) : o_C := .inl (2, N, .inl (fun _ => o_I 0))
def x_ab (N : Nat) : o_C := .inl (3, N, .inl (fun _ => o_I 0))
def x_c9 (b : Nat) : List o_C := .inr (2, [.int (o_I 0), .ref (b + 1), .ref (b + 2), .ref (b + 3)]) :: x_ai 6 :: x_ai 6 :: x_ai 6 :: []
set_option maxRecDepth 100000 in
set_option maxHeartbeats 4000000 in
/-- new Ships() -/
theorem ct_X9_init {l : Launch} (hl : l.stackTraces = false) (d : Nat) (L : List o_C) (b : Nat) (hb : L.length = b) (hlt : b < 900000) (hok : o_ok (b + 1) (o_hL (L ++ [.inr (2, [.int (o_I 0), .null, .null, .null])]))) : o_Ct l yX9_init wX9_init (d + 1) (x_al b) [.ref b] (b + 1) (o_hL (L ++ [.inr (2, [.int (o_I 0), .null, .null, .null])])) 3 18 (x_is (b + 4) (o_hL (L ++ x_c9 b))) := by
  refine o_Ct.ofV hl mX9_init (by decide +kernel) rfl rfl rfl (Nat.le_of_ble_eq_true rfl) ?_
  refine o_aload_n dX9_init_0 rfl ?_
  refine o_oi dX9_init_1 (o_gT (i := 59) (by decide +kernel) rfl) (o_gT (i := 46) (by decide +kernel) rfl) (o_gT (i := 47) (by decide +kernel) rfl) (by decide) ?_
  refine o_aload_n dX9_init_4 rfl ?_
  refine o_bipush dX9_init_5 (by decide) ?_
  refine o_newa (N := 6) (t := 0) (x := (6, .inl (fun _ => o_I 0))) hok (by omega) ⟨by omega, by omega⟩ dX9_init_7 rfl rfl (o_gT (i := 82) (by decide +kernel) rfl) (fun _ => rfl) (fun _ => rfl) trivial (by decide) (x_rf (by omega) (fun v hv k hk => by simp only [List.mem_cons, List.not_mem_nil, or_false] at hv; subst hv; cases hk; omega)) (by omega) (by omega) (fun ok0 => ?_)
  rw [o_hA (L := L) (R := (.inr (2, [.int (o_I 0), .null, .null, .null]) :: [])) (by rw [List.length_append, hb]; rfl)] at ok0 ⊢
  change o_V _ _ _ _ _ _ _ _ _ (o_hL (L ++ (.inr (2, [.int (o_I 0), .null, .null, .null]) :: x_ai 6 :: []))) _ _
  change o_ok _ (o_hL (L ++ (.inr (2, [.int (o_I 0), .null, .null, .null]) :: x_ai 6 :: []))) at ok0
  refine o_putF (ci := 2) (k9 := 1) (C := RX9) (T := TX9) (N := 4) dX9_init_9 (by omega) (o_h0 hb) rfl (by decide) (o_gT (i := 64) (by decide +kernel) rfl) rfl rfl rfl (tyX9_ok 1 (by decide)) (Nat.le_of_ble_eq_true rfl) (fun _ => rfl) (fun _ => rfl) ?_
  have ok1 := x_okP (k := 1) (v := .ref (b + 1)) hb (by omega) ok0 (fun r e => by cases e; exact Or.inl (by omega))
  rw [o_hU hb]
  change o_V _ _ _ _ _ _ _ _ _ (o_hL (L ++ (.inr (2, [.int (o_I 0), .ref (b + 1), .null, .null]) :: x_ai 6 :: []))) _ _
  change o_ok _ (o_hL (L ++ (.inr (2, [.int (o_I 0), .ref (b + 1), .null, .null]) :: x_ai 6 :: []))) at ok1
  refine o_aload_n dX9_init_12 rfl ?_
  refine o_bipush dX9_init_13 (by decide) ?_
  refine o_newa (N := 6) (t := 0) (x := (6, .inl (fun _ => o_I 0))) ok1 (by omega) ⟨by omega, by omega⟩ dX9_init_15 rfl rfl (o_gT (i := 82) (by decide +kernel) rfl) (fun _ => rfl) (fun _ => rfl) trivial (by decide) (x_rf (by omega) (fun v hv k hk => by simp only [List.mem_cons, List.not_mem_nil, or_false] at hv; subst hv; cases hk; omega)) (by omega) (by omega) (fun ok2 => ?_)
  rw [o_hA (L := L) (R := (.inr (2, [.int (o_I 0), .ref (b + 1), .null, .null]) :: x_ai 6 :: [])) (by rw [List.length_append, hb]; rfl)] at ok2 ⊢
  change o_V _ _ _ _ _ _ _ _ _ (o_hL (L ++ (.inr (2, [.int (o_I 0), .ref (b + 1), .null, .null]) :: x_ai 6 :: x_ai 6 :: []))) _ _
  change o_ok _ (o_hL (L ++ (.inr (2, [.int (o_I 0), .ref (b + 1), .null, .null]) :: x_ai 6 :: x_ai 6 :: []))) at ok2
  refine o_putF (ci := 2) (k9 := 2) (C := RX9) (T := TX9) (N := 4) dX9_init_17 (by omega) (o_h0 hb) rfl (by decide) (o_gT (i := 67) (by decide +kernel) rfl) rfl rfl rfl (tyX9_ok 2 (by decide)) (Nat.le_of_ble_eq_true rfl) (fun _ => rfl) (fun _ => rfl) ?_
  have ok3 := x_okP (k := 2) (v := .ref (b + 2)) hb (by omega) ok2 (fun r e => by cases e; exact Or.inl (by omega))
  rw [o_hU hb]
  change o_V _ _ _ _ _ _ _ _ _ (o_hL (L ++ (.inr (2, [.int (o_I 0), .ref (b + 1), .ref (b + 2), .null]) :: x_ai 6 :: x_ai 6 :: []))) _ _
  change o_ok _ (o_hL (L ++ (.inr (2, [.int (o_I 0), .ref (b + 1), .ref (b + 2), .null]) :: x_ai 6 :: x_ai 6 :: []))) at ok3
  refine o_aload_n dX9_init_20 rfl ?_
  refine o_bipush dX9_init_21 (by decide) ?_
  refine o_newa (N := 6) (t := 0) (x := (6, .inl (fun _ => o_I 0))) ok3 (by omega) ⟨by omega, by omega⟩ dX9_init_23 rfl rfl (o_gT (i := 82) (by decide +kernel) rfl) (fun _ => rfl) (fun _ => rfl) trivial (by decide) (x_rf (by omega) (fun v hv k hk => by simp only [List.mem_cons, List.not_mem_nil, or_false] at hv; subst hv; cases hk; omega)) (by omega) (by omega) (fun ok4 => ?_)
  rw [o_hA (L := L) (R := (.inr (2, [.int (o_I 0), .ref (b + 1), .ref (b + 2), .null]) :: x_ai 6 :: x_ai 6 :: [])) (by rw [List.length_append, hb]; rfl)] at ok4 ⊢
  change o_V _ _ _ _ _ _ _ _ _ (o_hL (L ++ (.inr (2, [.int (o_I 0), .ref (b + 1), .ref (b + 2), .null]) :: x_ai 6 :: x_ai 6 :: x_ai 6 :: []))) _ _
  change o_ok _ (o_hL (L ++ (.inr (2, [.int (o_I 0), .ref (b + 1), .ref (b + 2), .null]) :: x_ai 6 :: x_ai 6 :: x_ai 6 :: []))) at ok4
  refine o_putF (ci := 2) (k9 := 3) (C := RX9) (T := TX9) (N := 4) dX9_init_25 (by omega) (o_h0 hb) rfl (by decide) (o_gT (i := 70) (by decide +kernel) rfl) rfl rfl rfl (tyX9_ok 3 (by decide)) (Nat.le_of_ble_eq_true rfl) (fun _ => rfl) (fun _ => rfl) ?_
  have ok5 := x_okP (k := 3) (v := .ref (b + 3)) hb (by omega) ok4 (fun r e => by cases e; exact Or.inl (by omega))
  rw [o_hU hb]
  change o_V _ _ _ _ _ _ _ _ _ (o_hL (L ++ (.inr (2, [.int (o_I 0), .ref (b + 1), .ref (b + 2), .ref (b + 3)]) :: x_ai 6 :: x_ai 6 :: x_ai 6 :: []))) _ _
  change o_ok _ (o_hL (L ++ (.inr (2, [.int (o_I 0), .ref (b + 1), .ref (b + 2), .ref (b + 3)]) :: x_ai 6 :: x_ai 6 :: x_ai 6 :: []))) at ok5
  refine o_ret0 dX9_init_28 trivial ?_
  exact ⟨rfl, rfl, rfl, ok5⟩
def x_c7 (b : Nat) : List o_C := .inr (3, [.int (o_I 0), .ref (b + 1), .ref (b + 2), .ref (b + 3), .ref (b + 4), .ref (b + 5)]) :: x_ai 8 :: x_ai 8 :: x_ai 8 :: x_ai 8 :: x_az 8 :: []
set_option maxRecDepth 100000 in
set_option maxHeartbeats 4000000 in
/-- new Lamps() -/
theorem ct_X7_init {l : Launch} (hl : l.stackTraces = false) (d : Nat) (L : List o_C) (b : Nat) (hb : L.length = b) (hlt : b < 900000) (hok : o_ok (b + 1) (o_hL (L ++ [.inr (3, [.int (o_I 0), .null, .null, .null, .null, .null])]))) : o_Ct l yX7_init wX7_init (d + 1) (x_al b) [.ref b] (b + 1) (o_hL (L ++ [.inr (3, [.int (o_I 0), .null, .null, .null, .null, .null])])) 5 40 (x_is (b + 6) (o_hL (L ++ x_c7 b))) := by
  refine o_Ct.ofV hl mX7_init (by decide +kernel) rfl rfl rfl (Nat.le_of_ble_eq_true rfl) ?_
  refine o_aload_n dX7_init_0 rfl ?_
  refine o_oi dX7_init_1 (o_gT (i := 88) (by decide +kernel) rfl) (o_gT (i := 46) (by decide +kernel) rfl) (o_gT (i := 47) (by decide +kernel) rfl) (by decide) ?_
  refine o_aload_n dX7_init_4 rfl ?_
  refine o_bipush dX7_init_5 (by decide) ?_
  refine o_newa (N := 8) (t := 0) (x := (8, .inl (fun _ => o_I 0))) hok (by omega) ⟨by omega, by omega⟩ dX7_init_7 rfl rfl (o_gT (i := 82) (by decide +kernel) rfl) (fun _ => rfl) (fun _ => rfl) trivial (by decide) (x_rf (by omega) (fun v hv k hk => by simp only [List.mem_cons, List.not_mem_nil, or_false] at hv; subst hv; cases hk; omega)) (by omega) (by omega) (fun ok0 => ?_)
  rw [o_hA (L := L) (R := (.inr (3, [.int (o_I 0), .null, .null, .null, .null, .null]) :: [])) (by rw [List.length_append, hb]; rfl)] at ok0 ⊢
  change o_V _ _ _ _ _ _ _ _ _ (o_hL (L ++ (.inr (3, [.int (o_I 0), .null, .null, .null, .null, .null]) :: x_ai 8 :: []))) _ _
  change o_ok _ (o_hL (L ++ (.inr (3, [.int (o_I 0), .null, .null, .null, .null, .null]) :: x_ai 8 :: []))) at ok0
  refine o_putF (ci := 3) (k9 := 1) (C := RX7) (T := TX7) (N := 6) dX7_init_9 (by omega) (o_h0 hb) rfl (by decide) (o_gT (i := 93) (by decide +kernel) rfl) rfl rfl rfl (tyX7_ok 1 (by decide)) (Nat.le_of_ble_eq_true rfl) (fun _ => rfl) (fun _ => rfl) ?_
  have ok1 := x_okP (k := 1) (v := .ref (b + 1)) hb (by omega) ok0 (fun r e => by cases e; exact Or.inl (by omega))
  rw [o_hU hb]
  change o_V _ _ _ _ _ _ _ _ _ (o_hL (L ++ (.inr (3, [.int (o_I 0), .ref (b + 1), .null, .null, .null, .null]) :: x_ai 8 :: []))) _ _
  change o_ok _ (o_hL (L ++ (.inr (3, [.int (o_I 0), .ref (b + 1), .null, .null, .null, .null]) :: x_ai 8 :: []))) at ok1
  refine o_aload_n dX7_init_12 rfl ?_
  refine o_bipush dX7_init_13 (by decide) ?_
  refine o_newa (N := 8) (t := 0) (x := (8, .inl (fun _ => o_I 0))) ok1 (by omega) ⟨by omega, by omega⟩ dX7_init_15 rfl rfl (o_gT (i := 82) (by decide +kernel) rfl) (fun _ => rfl) (fun _ => rfl) trivial (by decide) (x_rf (by omega) (fun v hv k hk => by simp only [List.mem_cons, List.not_mem_nil, or_false] at hv; subst hv; cases hk; omega)) (by omega) (by omega) (fun ok2 => ?_)
  rw [o_hA (L := L) (R := (.inr (3, [.int (o_I 0), .ref (b + 1), .null, .null, .null, .null]) :: x_ai 8 :: [])) (by rw [List.length_append, hb]; rfl)] at ok2 ⊢
  change o_V _ _ _ _ _ _ _ _ _ (o_hL (L ++ (.inr (3, [.int (o_I 0), .ref (b + 1), .null, .null, .null, .null]) :: x_ai 8 :: x_ai 8 :: []))) _ _
  change o_ok _ (o_hL (L ++ (.inr (3, [.int (o_I 0), .ref (b + 1), .null, .null, .null, .null]) :: x_ai 8 :: x_ai 8 :: []))) at ok2
  refine o_putF (ci := 3) (k9 := 2) (C := RX7) (T := TX7) (N := 6) dX7_init_17 (by omega) (o_h0 hb) rfl (by decide) (o_gT (i := 97) (by decide +kernel) rfl) rfl rfl rfl (tyX7_ok 2 (by decide)) (Nat.le_of_ble_eq_true rfl) (fun _ => rfl) (fun _ => rfl) ?_
  have ok3 := x_okP (k := 2) (v := .ref (b + 2)) hb (by omega) ok2 (fun r e => by cases e; exact Or.inl (by omega))
  rw [o_hU hb]
  change o_V _ _ _ _ _ _ _ _ _ (o_hL (L ++ (.inr (3, [.int (o_I 0), .ref (b + 1), .ref (b + 2), .null, .null, .null]) :: x_ai 8 :: x_ai 8 :: []))) _ _
  change o_ok _ (o_hL (L ++ (.inr (3, [.int (o_I 0), .ref (b + 1), .ref (b + 2), .null, .null, .null]) :: x_ai 8 :: x_ai 8 :: []))) at ok3
  refine o_aload_n dX7_init_20 rfl ?_
  refine o_bipush dX7_init_21 (by decide) ?_
  refine o_newa (N := 8) (t := 0) (x := (8, .inl (fun _ => o_I 0))) ok3 (by omega) ⟨by omega, by omega⟩ dX7_init_23 rfl rfl (o_gT (i := 82) (by decide +kernel) rfl) (fun _ => rfl) (fun _ => rfl) trivial (by decide) (x_rf (by omega) (fun v hv k hk => by simp only [List.mem_cons, List.not_mem_nil, or_false] at hv; subst hv; cases hk; omega)) (by omega) (by omega) (fun ok4 => ?_)
  rw [o_hA (L := L) (R := (.inr (3, [.int (o_I 0), .ref (b + 1), .ref (b + 2), .null, .null, .null]) :: x_ai 8 :: x_ai 8 :: [])) (by rw [List.length_append, hb]; rfl)] at ok4 ⊢
  change o_V _ _ _ _ _ _ _ _ _ (o_hL (L ++ (.inr (3, [.int (o_I 0), .ref (b + 1), .ref (b + 2), .null, .null, .null]) :: x_ai 8 :: x_ai 8 :: x_ai 8 :: []))) _ _
  change o_ok _ (o_hL (L ++ (.inr (3, [.int (o_I 0), .ref (b + 1), .ref (b + 2), .null, .null, .null]) :: x_ai 8 :: x_ai 8 :: x_ai 8 :: []))) at ok4
  refine o_putF (ci := 3) (k9 := 3) (C := RX7) (T := TX7) (N := 6) dX7_init_25 (by omega) (o_h0 hb) rfl (by decide) (o_gT (i := 100) (by decide +kernel) rfl) rfl rfl rfl (tyX7_ok 3 (by decide)) (Nat.le_of_ble_eq_true rfl) (fun _ => rfl) (fun _ => rfl) ?_
  have ok5 := x_okP (k := 3) (v := .ref (b + 3)) hb (by omega) ok4 (fun r e => by cases e; exact Or.inl (by omega))
  rw [o_hU hb]
  change o_V _ _ _ _ _ _ _ _ _ (o_hL (L ++ (.inr (3, [.int (o_I 0), .ref (b + 1), .ref (b + 2), .ref (b + 3), .null, .null]) :: x_ai 8 :: x_ai 8 :: x_ai 8 :: []))) _ _
  change o_ok _ (o_hL (L ++ (.inr (3, [.int (o_I 0), .ref (b + 1), .ref (b + 2), .ref (b + 3), .null, .null]) :: x_ai 8 :: x_ai 8 :: x_ai 8 :: []))) at ok5
  refine o_aload_n dX7_init_28 rfl ?_
  refine o_bipush dX7_init_29 (by decide) ?_
  refine o_newa (N := 8) (t := 0) (x := (8, .inl (fun _ => o_I 0))) ok5 (by omega) ⟨by omega, by omega⟩ dX7_init_31 rfl rfl (o_gT (i := 82) (by decide +kernel) rfl) (fun _ => rfl) (fun _ => rfl) trivial (by decide) (x_rf (by omega) (fun v hv k hk => by simp only [List.mem_cons, List.not_mem_nil, or_false] at hv; subst hv; cases hk; omega)) (by omega) (by omega) (fun ok6 => ?_)
  rw [o_hA (L := L) (R := (.inr (3, [.int (o_I 0), .ref (b + 1), .ref (b + 2), .ref (b + 3), .null, .null]) :: x_ai 8 :: x_ai 8 :: x_ai 8 :: [])) (by rw [List.length_append, hb]; rfl)] at ok6 ⊢
  change o_V _ _ _ _ _ _ _ _ _ (o_hL (L ++ (.inr (3, [.int (o_I 0), .ref (b + 1), .ref (b + 2), .ref (b + 3), .null, .null]) :: x_ai 8 :: x_ai 8 :: x_ai 8 :: x_ai 8 :: []))) _ _
  change o_ok _ (o_hL (L ++ (.inr (3, [.int (o_I 0), .ref (b + 1), .ref (b + 2), .ref (b + 3), .null, .null]) :: x_ai 8 :: x_ai 8 :: x_ai 8 :: x_ai 8 :: []))) at ok6
  refine o_putF (ci := 3) (k9 := 4) (C := RX7) (T := TX7) (N := 6) dX7_init_33 (by omega) (o_h0 hb) rfl (by decide) (o_gT (i := 103) (by decide +kernel) rfl) rfl rfl rfl (tyX7_ok 4 (by decide)) (Nat.le_of_ble_eq_true rfl) (fun _ => rfl) (fun _ => rfl) ?_
  have ok7 := x_okP (k := 4) (v := .ref (b + 4)) hb (by omega) ok6 (fun r e => by cases e; exact Or.inl (by omega))
  rw [o_hU hb]
  change o_V _ _ _ _ _ _ _ _ _ (o_hL (L ++ (.inr (3, [.int (o_I 0), .ref (b + 1), .ref (b + 2), .ref (b + 3), .ref (b + 4), .null]) :: x_ai 8 :: x_ai 8 :: x_ai 8 :: x_ai 8 :: []))) _ _
  change o_ok _ (o_hL (L ++ (.inr (3, [.int (o_I 0), .ref (b + 1), .ref (b + 2), .ref (b + 3), .ref (b + 4), .null]) :: x_ai 8 :: x_ai 8 :: x_ai 8 :: x_ai 8 :: []))) at ok7
  refine o_aload_n dX7_init_36 rfl ?_
  refine o_bipush dX7_init_37 (by decide) ?_
  refine o_newa (N := 8) (t := 1) (x := (8, .inl (fun _ => o_I 0))) ok7 (by omega) ⟨by omega, by omega⟩ dX7_init_39 rfl rfl (o_gT (i := 122) (by decide +kernel) rfl) (fun _ => rfl) (fun _ => rfl) trivial (by decide) (x_rf (by omega) (fun v hv k hk => by simp only [List.mem_cons, List.not_mem_nil, or_false] at hv; subst hv; cases hk; omega)) (by omega) (by omega) (fun ok8 => ?_)
  rw [o_hA (L := L) (R := (.inr (3, [.int (o_I 0), .ref (b + 1), .ref (b + 2), .ref (b + 3), .ref (b + 4), .null]) :: x_ai 8 :: x_ai 8 :: x_ai 8 :: x_ai 8 :: [])) (by rw [List.length_append, hb]; rfl)] at ok8 ⊢
  change o_V _ _ _ _ _ _ _ _ _ (o_hL (L ++ (.inr (3, [.int (o_I 0), .ref (b + 1), .ref (b + 2), .ref (b + 3), .ref (b + 4), .null]) :: x_ai 8 :: x_ai 8 :: x_ai 8 :: x_ai 8 :: x_az 8 :: []))) _ _
  change o_ok _ (o_hL (L ++ (.inr (3, [.int (o_I 0), .ref (b + 1), .ref (b + 2), .ref (b + 3), .ref (b + 4), .null]) :: x_ai 8 :: x_ai 8 :: x_ai 8 :: x_ai 8 :: x_az 8 :: []))) at ok8
  refine o_putF (ci := 3) (k9 := 5) (C := RX7) (T := TX7) (N := 6) dX7_init_41 (by omega) (o_h0 hb) rfl (by decide) (o_gT (i := 106) (by decide +kernel) rfl) rfl rfl rfl (tyX7_ok 5 (by decide)) (Nat.le_of_ble_eq_true rfl) (fun _ => rfl) (fun _ => rfl) ?_
  have ok9 := x_okP (k := 5) (v := .ref (b + 5)) hb (by omega) ok8 (fun r e => by cases e; exact Or.inl (by omega))
  rw [o_hU hb]
  change o_V _ _ _ _ _ _ _ _ _ (o_hL (L ++ (.inr (3, [.int (o_I 0), .ref (b + 1), .ref (b + 2), .ref (b + 3), .ref (b + 4), .ref (b + 5)]) :: x_ai 8 :: x_ai 8 :: x_ai 8 :: x_ai 8 :: x_az 8 :: []))) _ _
  change o_ok _ (o_hL (L ++ (.inr (3, [.int (o_I 0), .ref (b + 1), .ref (b + 2), .ref (b + 3), .ref (b + 4), .ref (b + 5)]) :: x_ai 8 :: x_ai 8 :: x_ai 8 :: x_ai 8 :: x_az 8 :: []))) at ok9
  refine o_ret0 dX7_init_44 trivial ?_
  exact ⟨rfl, rfl, rfl, ok9⟩
def x_c8 (b : Nat) : List o_C := .inr (4, [.int (o_I 0), .ref (b + 1), .ref (b + 2)]) :: x_ai 8 :: x_ai 8 :: []
set_option maxRecDepth 100000 in
set_option maxHeartbeats 4000000 in
/-- new Requests() -/
theorem ct_X8_init {l : Launch} (hl : l.stackTraces = false) (d : Nat) (L : List o_C) (b : Nat) (hb : L.length = b) (hlt : b < 900000) (hok : o_ok (b + 1) (o_hL (L ++ [.inr (4, [.int (o_I 0), .null, .null])]))) : o_Ct l yX8_init wX8_init (d + 1) (x_al b) [.ref b] (b + 1) (o_hL (L ++ [.inr (4, [.int (o_I 0), .null, .null])])) 2 16 (x_is (b + 3) (o_hL (L ++ x_c8 b))) := by
  refine o_Ct.ofV hl mX8_init (by decide +kernel) rfl rfl rfl (Nat.le_of_ble_eq_true rfl) ?_
  refine o_aload_n dX8_init_0 rfl ?_
  refine o_oi dX8_init_1 (o_gT (i := 128) (by decide +kernel) rfl) (o_gT (i := 46) (by decide +kernel) rfl) (o_gT (i := 47) (by decide +kernel) rfl) (by decide) ?_
  refine o_aload_n dX8_init_4 rfl ?_
  refine o_bipush dX8_init_5 (by decide) ?_
  refine o_newa (N := 8) (t := 0) (x := (8, .inl (fun _ => o_I 0))) hok (by omega) ⟨by omega, by omega⟩ dX8_init_7 rfl rfl (o_gT (i := 82) (by decide +kernel) rfl) (fun _ => rfl) (fun _ => rfl) trivial (by decide) (x_rf (by omega) (fun v hv k hk => by simp only [List.mem_cons, List.not_mem_nil, or_false] at hv; subst hv; cases hk; omega)) (by omega) (by omega) (fun ok0 => ?_)
  rw [o_hA (L := L) (R := (.inr (4, [.int (o_I 0), .null, .null]) :: [])) (by rw [List.length_append, hb]; rfl)] at ok0 ⊢
  change o_V _ _ _ _ _ _ _ _ _ (o_hL (L ++ (.inr (4, [.int (o_I 0), .null, .null]) :: x_ai 8 :: []))) _ _
  change o_ok _ (o_hL (L ++ (.inr (4, [.int (o_I 0), .null, .null]) :: x_ai 8 :: []))) at ok0
  refine o_putF (ci := 4) (k9 := 1) (C := RX8) (T := TX8) (N := 3) dX8_init_9 (by omega) (o_h0 hb) rfl (by decide) (o_gT (i := 132) (by decide +kernel) rfl) rfl rfl rfl (tyX8_ok 1 (by decide)) (Nat.le_of_ble_eq_true rfl) (fun _ => rfl) (fun _ => rfl) ?_
  have ok1 := x_okP (k := 1) (v := .ref (b + 1)) hb (by omega) ok0 (fun r e => by cases e; exact Or.inl (by omega))
  rw [o_hU hb]
  change o_V _ _ _ _ _ _ _ _ _ (o_hL (L ++ (.inr (4, [.int (o_I 0), .ref (b + 1), .null]) :: x_ai 8 :: []))) _ _
  change o_ok _ (o_hL (L ++ (.inr (4, [.int (o_I 0), .ref (b + 1), .null]) :: x_ai 8 :: []))) at ok1
  refine o_aload_n dX8_init_12 rfl ?_
  refine o_bipush dX8_init_13 (by decide) ?_
  refine o_newa (N := 8) (t := 0) (x := (8, .inl (fun _ => o_I 0))) ok1 (by omega) ⟨by omega, by omega⟩ dX8_init_15 rfl rfl (o_gT (i := 82) (by decide +kernel) rfl) (fun _ => rfl) (fun _ => rfl) trivial (by decide) (x_rf (by omega) (fun v hv k hk => by simp only [List.mem_cons, List.not_mem_nil, or_false] at hv; subst hv; cases hk; omega)) (by omega) (by omega) (fun ok2 => ?_)
  rw [o_hA (L := L) (R := (.inr (4, [.int (o_I 0), .ref (b + 1), .null]) :: x_ai 8 :: [])) (by rw [List.length_append, hb]; rfl)] at ok2 ⊢
  change o_V _ _ _ _ _ _ _ _ _ (o_hL (L ++ (.inr (4, [.int (o_I 0), .ref (b + 1), .null]) :: x_ai 8 :: x_ai 8 :: []))) _ _
  change o_ok _ (o_hL (L ++ (.inr (4, [.int (o_I 0), .ref (b + 1), .null]) :: x_ai 8 :: x_ai 8 :: []))) at ok2
  refine o_putF (ci := 4) (k9 := 2) (C := RX8) (T := TX8) (N := 3) dX8_init_17 (by omega) (o_h0 hb) rfl (by decide) (o_gT (i := 135) (by decide +kernel) rfl) rfl rfl rfl (tyX8_ok 2 (by decide)) (Nat.le_of_ble_eq_true rfl) (fun _ => rfl) (fun _ => rfl) ?_
  have ok3 := x_okP (k := 2) (v := .ref (b + 2)) hb (by omega) ok2 (fun r e => by cases e; exact Or.inl (by omega))
  rw [o_hU hb]
  change o_V _ _ _ _ _ _ _ _ _ (o_hL (L ++ (.inr (4, [.int (o_I 0), .ref (b + 1), .ref (b + 2)]) :: x_ai 8 :: x_ai 8 :: []))) _ _
  change o_ok _ (o_hL (L ++ (.inr (4, [.int (o_I 0), .ref (b + 1), .ref (b + 2)]) :: x_ai 8 :: x_ai 8 :: []))) at ok3
  refine o_ret0 dX8_init_20 trivial ?_
  exact ⟨rfl, rfl, rfl, ok3⟩
def x_c4 (b : Nat) : List o_C := .inr (6, [.ref (b + 1)]) :: x_ai 25 :: []
set_option maxRecDepth 100000 in
set_option maxHeartbeats 4000000 in
/-- new Forecast() -/
theorem ct_X4_init {l : Launch} (hl : l.stackTraces = false) (d : Nat) (L : List o_C) (b : Nat) (hb : L.length = b) (hlt : b < 900000) (hok : o_ok (b + 1) (o_hL (L ++ [.inr (6, [.null])]))) : o_Ct l yX4_init wX4_init (d + 1) (x_al b) [.ref b] (b + 1) (o_hL (L ++ [.inr (6, [.null])])) 1 25 (x_is (b + 2) (o_hL (L ++ x_c4 b))) := by
  refine o_Ct.ofV hl mX4_init (by decide +kernel) rfl rfl rfl (Nat.le_of_ble_eq_true rfl) ?_
  refine o_aload_n dX4_init_0 rfl ?_
  refine o_oi dX4_init_1 (o_gT (i := 205) (by decide +kernel) rfl) (o_gT (i := 46) (by decide +kernel) rfl) (o_gT (i := 47) (by decide +kernel) rfl) (by decide) ?_
  refine o_aload_n dX4_init_4 rfl ?_
  refine o_bipush dX4_init_5 (by decide) ?_
  refine o_newa (N := 25) (t := 0) (x := (25, .inl (fun _ => o_I 0))) hok (by omega) ⟨by omega, by omega⟩ dX4_init_7 rfl rfl (o_gT (i := 82) (by decide +kernel) rfl) (fun _ => rfl) (fun _ => rfl) trivial (by decide) (x_rf (by omega) (fun v hv k hk => by simp only [List.mem_cons, List.not_mem_nil, or_false] at hv; subst hv; cases hk; omega)) (by omega) (by omega) (fun ok0 => ?_)
  rw [o_hA (L := L) (R := (.inr (6, [.null]) :: [])) (by rw [List.length_append, hb]; rfl)] at ok0 ⊢
  change o_V _ _ _ _ _ _ _ _ _ (o_hL (L ++ (.inr (6, [.null]) :: x_ai 25 :: []))) _ _
  change o_ok _ (o_hL (L ++ (.inr (6, [.null]) :: x_ai 25 :: []))) at ok0
  refine o_putF (ci := 6) (k9 := 0) (C := RX4) (T := TX4) (N := 1) dX4_init_9 (by omega) (o_h0 hb) rfl (by decide) (o_gT (i := 206) (by decide +kernel) rfl) rfl rfl rfl (tyX4_ok 0 (by decide)) (Nat.le_of_ble_eq_true rfl) (fun _ => rfl) (fun _ => rfl) ?_
  have ok1 := x_okP (k := 0) (v := .ref (b + 1)) hb (by omega) ok0 (fun r e => by cases e; exact Or.inl (by omega))
  rw [o_hU hb]
  change o_V _ _ _ _ _ _ _ _ _ (o_hL (L ++ (.inr (6, [.ref (b + 1)]) :: x_ai 25 :: []))) _ _
  change o_ok _ (o_hL (L ++ (.inr (6, [.ref (b + 1)]) :: x_ai 25 :: []))) at ok1
  refine o_ret0 dX4_init_12 trivial ?_
  exact ⟨rfl, rfl, rfl, ok1⟩
def x_c3 (b : Nat) : List o_C := .inr (7, [.ref (b + 1), .ref (b + 2), .ref (b + 3), .int (o_I 0)]) :: x_ai 6 :: x_ai 6 :: x_az 6 :: []
set_option maxRecDepth 100000 in
set_option maxHeartbeats 4000000 in
/-- new Division() -/
theorem ct_X3_init {l : Launch} (hl : l.stackTraces = false) (d : Nat) (L : List o_C) (b : Nat) (hb : L.length = b) (hlt : b < 900000) (hok : o_ok (b + 1) (o_hL (L ++ [.inr (7, [.null, .null, .null, .int (o_I 0)])]))) : o_Ct l yX3_init wX3_init (d + 1) (x_al b) [.ref b] (b + 1) (o_hL (L ++ [.inr (7, [.null, .null, .null, .int (o_I 0)])])) 3 18 (x_is (b + 4) (o_hL (L ++ x_c3 b))) := by
  refine o_Ct.ofV hl mX3_init (by decide +kernel) rfl rfl rfl (Nat.le_of_ble_eq_true rfl) ?_
  refine o_aload_n dX3_init_0 rfl ?_
  refine o_oi dX3_init_1 (o_gT (i := 215) (by decide +kernel) rfl) (o_gT (i := 46) (by decide +kernel) rfl) (o_gT (i := 47) (by decide +kernel) rfl) (by decide) ?_
  refine o_aload_n dX3_init_4 rfl ?_
  refine o_bipush dX3_init_5 (by decide) ?_
  refine o_newa (N := 6) (t := 0) (x := (6, .inl (fun _ => o_I 0))) hok (by omega) ⟨by omega, by omega⟩ dX3_init_7 rfl rfl (o_gT (i := 82) (by decide +kernel) rfl) (fun _ => rfl) (fun _ => rfl) trivial (by decide) (x_rf (by omega) (fun v hv k hk => by simp only [List.mem_cons, List.not_mem_nil, or_false] at hv; subst hv; cases hk; omega)) (by omega) (by omega) (fun ok0 => ?_)
  rw [o_hA (L := L) (R := (.inr (7, [.null, .null, .null, .int (o_I 0)]) :: [])) (by rw [List.length_append, hb]; rfl)] at ok0 ⊢
  change o_V _ _ _ _ _ _ _ _ _ (o_hL (L ++ (.inr (7, [.null, .null, .null, .int (o_I 0)]) :: x_ai 6 :: []))) _ _
  change o_ok _ (o_hL (L ++ (.inr (7, [.null, .null, .null, .int (o_I 0)]) :: x_ai 6 :: []))) at ok0
  refine o_putF (ci := 7) (k9 := 0) (C := RX3) (T := TX3) (N := 4) dX3_init_9 (by omega) (o_h0 hb) rfl (by decide) (o_gT (i := 216) (by decide +kernel) rfl) rfl rfl rfl (tyX3_ok 0 (by decide)) (Nat.le_of_ble_eq_true rfl) (fun _ => rfl) (fun _ => rfl) ?_
  have ok1 := x_okP (k := 0) (v := .ref (b + 1)) hb (by omega) ok0 (fun r e => by cases e; exact Or.inl (by omega))
  rw [o_hU hb]
  change o_V _ _ _ _ _ _ _ _ _ (o_hL (L ++ (.inr (7, [.ref (b + 1), .null, .null, .int (o_I 0)]) :: x_ai 6 :: []))) _ _
  change o_ok _ (o_hL (L ++ (.inr (7, [.ref (b + 1), .null, .null, .int (o_I 0)]) :: x_ai 6 :: []))) at ok1
  refine o_aload_n dX3_init_12 rfl ?_
  refine o_bipush dX3_init_13 (by decide) ?_
  refine o_newa (N := 6) (t := 0) (x := (6, .inl (fun _ => o_I 0))) ok1 (by omega) ⟨by omega, by omega⟩ dX3_init_15 rfl rfl (o_gT (i := 82) (by decide +kernel) rfl) (fun _ => rfl) (fun _ => rfl) trivial (by decide) (x_rf (by omega) (fun v hv k hk => by simp only [List.mem_cons, List.not_mem_nil, or_false] at hv; subst hv; cases hk; omega)) (by omega) (by omega) (fun ok2 => ?_)
  rw [o_hA (L := L) (R := (.inr (7, [.ref (b + 1), .null, .null, .int (o_I 0)]) :: x_ai 6 :: [])) (by rw [List.length_append, hb]; rfl)] at ok2 ⊢
  change o_V _ _ _ _ _ _ _ _ _ (o_hL (L ++ (.inr (7, [.ref (b + 1), .null, .null, .int (o_I 0)]) :: x_ai 6 :: x_ai 6 :: []))) _ _
  change o_ok _ (o_hL (L ++ (.inr (7, [.ref (b + 1), .null, .null, .int (o_I 0)]) :: x_ai 6 :: x_ai 6 :: []))) at ok2
  refine o_putF (ci := 7) (k9 := 1) (C := RX3) (T := TX3) (N := 4) dX3_init_17 (by omega) (o_h0 hb) rfl (by decide) (o_gT (i := 217) (by decide +kernel) rfl) rfl rfl rfl (tyX3_ok 1 (by decide)) (Nat.le_of_ble_eq_true rfl) (fun _ => rfl) (fun _ => rfl) ?_
  have ok3 := x_okP (k := 1) (v := .ref (b + 2)) hb (by omega) ok2 (fun r e => by cases e; exact Or.inl (by omega))
  rw [o_hU hb]
  change o_V _ _ _ _ _ _ _ _ _ (o_hL (L ++ (.inr (7, [.ref (b + 1), .ref (b + 2), .null, .int (o_I 0)]) :: x_ai 6 :: x_ai 6 :: []))) _ _
  change o_ok _ (o_hL (L ++ (.inr (7, [.ref (b + 1), .ref (b + 2), .null, .int (o_I 0)]) :: x_ai 6 :: x_ai 6 :: []))) at ok3
  refine o_aload_n dX3_init_20 rfl ?_
  refine o_bipush dX3_init_21 (by decide) ?_
  refine o_newa (N := 6) (t := 1) (x := (6, .inl (fun _ => o_I 0))) ok3 (by omega) ⟨by omega, by omega⟩ dX3_init_23 rfl rfl (o_gT (i := 122) (by decide +kernel) rfl) (fun _ => rfl) (fun _ => rfl) trivial (by decide) (x_rf (by omega) (fun v hv k hk => by simp only [List.mem_cons, List.not_mem_nil, or_false] at hv; subst hv; cases hk; omega)) (by omega) (by omega) (fun ok4 => ?_)
  rw [o_hA (L := L) (R := (.inr (7, [.ref (b + 1), .ref (b + 2), .null, .int (o_I 0)]) :: x_ai 6 :: x_ai 6 :: [])) (by rw [List.length_append, hb]; rfl)] at ok4 ⊢
  change o_V _ _ _ _ _ _ _ _ _ (o_hL (L ++ (.inr (7, [.ref (b + 1), .ref (b + 2), .null, .int (o_I 0)]) :: x_ai 6 :: x_ai 6 :: x_az 6 :: []))) _ _
  change o_ok _ (o_hL (L ++ (.inr (7, [.ref (b + 1), .ref (b + 2), .null, .int (o_I 0)]) :: x_ai 6 :: x_ai 6 :: x_az 6 :: []))) at ok4
  refine o_putF (ci := 7) (k9 := 2) (C := RX3) (T := TX3) (N := 4) dX3_init_25 (by omega) (o_h0 hb) rfl (by decide) (o_gT (i := 218) (by decide +kernel) rfl) rfl rfl rfl (tyX3_ok 2 (by decide)) (Nat.le_of_ble_eq_true rfl) (fun _ => rfl) (fun _ => rfl) ?_
  have ok5 := x_okP (k := 2) (v := .ref (b + 3)) hb (by omega) ok4 (fun r e => by cases e; exact Or.inl (by omega))
  rw [o_hU hb]
  change o_V _ _ _ _ _ _ _ _ _ (o_hL (L ++ (.inr (7, [.ref (b + 1), .ref (b + 2), .ref (b + 3), .int (o_I 0)]) :: x_ai 6 :: x_ai 6 :: x_az 6 :: []))) _ _
  change o_ok _ (o_hL (L ++ (.inr (7, [.ref (b + 1), .ref (b + 2), .ref (b + 3), .int (o_I 0)]) :: x_ai 6 :: x_ai 6 :: x_az 6 :: []))) at ok5
  refine o_ret0 dX3_init_28 trivial ?_
  exact ⟨rfl, rfl, rfl, ok5⟩
