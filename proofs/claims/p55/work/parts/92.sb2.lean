/-! a builder alone: a heap of two cells -/
def s9_F : List ((Nat → Int) → Int → o_C) := [fun f c => .inr (11, [.ref 1, .int (o_I (f 1)), .int (o_I (f 2)), .int (o_I (f 3))]), fun f c => .inl (3, c.toNat, .inl (fun j => o_I (f j)))]
def s9_mem (g : Nat → Nat → Int) (k : Nat) : o_C := (s9_F.getD k (fun _ _ => .inr (0, []))) (g k) (g 0 9)
abbrev s9_N : Nat := 2
/-- a store, in the shape -/
theorem s9_mw {g : Nat → Nat → Int} {k : Nat} {f : Nat → Int} {c : o_C} (hc : c = (s9_F.getD k (fun _ _ => .inr (0, []))) f (g 0 9)) (h9 : (o_w g k f) 0 9 = g 0 9) : o_up (s9_mem g) k c = s9_mem (o_w g k f) := by
  funext j
  unfold o_up s9_mem
  rw [h9]
  by_cases e : j = k
  · subst e
    rw [if_pos rfl, o_w_s]
    exact hc
  · rw [if_neg e, o_w_n g f e]
theorem s9_m191 (g : Nat → Nat → Int) : s9_mem g 1 = .inl (3, (g 0 9).toNat, .inl (fun j => o_I (g 1 j))) := rfl
abbrev s9_FF (k : Nat) : (Nat → Int) → Int → o_C := s9_F.getD k (fun _ _ => .inr (0, []))
section
variable {l : Launch} {M : o_M} {d : Nat} {al : Nat → Prop} {post : o_P} {pc : Nat} {ls : List (Nat × Value)} {st : List Value} {n : Nat} {h : Nat → o_C} {mc ms : Nat} {g : Nat → Nat → Int}
/-- an int field is written, in the shape -/
theorem s9_pm {b ci k i : Nat} {fs : List Value} {z : Int} {ty : FieldType} (hd : decode M.2.1 pc = .ok (.putfield i, 3)) (hf : o_fp M.1 i ci k ty) (hh : s9_mem g b = .inr (ci, fs)) (hb : b < n) (hl : k < fs.length) (hn : narrow ty (.int (o_I z)) = .int (o_I z)) (hf2 : fits ty (.int (o_I z)) = true) (hc : Sum.inr (ci, fs.set k (.int (o_I z))) = s9_FF b (o_u (g b) k z) (g 0 9)) (h9 : (o_w g b (o_u (g b) k z)) 0 9 = g 0 9) (k9 : o_V l M d al post (pc + 3) ls st n (s9_mem (o_w g b (o_u (g b) k z))) mc ms) : o_V l M d al post pc ls (.int (o_I z) :: .ref b :: st) n (s9_mem g) mc ms :=
  o_pf hd hf hh hb hl (fun _ => hn) (fun _ => hf2) (s9_mw hc h9) k9
end
def s9_mt (v : Option Value) (Q : (Nat → Nat → Int) → Prop) : o_P := fun o n h => o = .inl v ∧ n = s9_N ∧ ∃ g', h = s9_mem g' ∧ Q g'
section
variable {l : Launch} {M : o_M} {d : Nat} {al : Nat → Prop} {post : o_P} {pc : Nat} {ls : List (Nat × Value)} {st : List Value} {n : Nat} {h : Nat → o_C} {mc ms : Nat} {g : Nat → Nat → Int}
theorem s9_cSm {y : MethodName} {yb : ByteArray} {yL dy index : Nat} {yr : Option FieldType} (As : List Value) {rest : List Value} {v : Option Value} {Q : (Nat → Nat → Int) → Prop}
    (hC : o_Ct l y (.code y yb yL yr) dy o_no As n h 0 0 (s9_mt v Q)) (hd : decode M.2.1 pc = .ok (.invokestatic index, 3)) (hw : Cond.methodLink M.1 index y ∈ o_gW) (hyw : o_ys y (.code y yb yL yr)) (hyd : o_yd y As.length = true) (hyL : yL ≤ 21)
    (hdy : dy < d) (hst : st = As.reverse ++ rest) (hcat : (rest.map fun v => v.category).sum ≤ 8)
    (k : ∀ g', Q g' → o_V l M d al post (pc + 3) ls (v.toList ++ rest) s9_N (s9_mem g') mc ms) : o_V l M d al post pc ls st n h mc ms :=
  o_callS As hC hd hw hyw hyd hyL hdy (Nat.zero_le _) (Nat.zero_le _) hst hcat (fun _ z => z.elim) (fun _ z => z.elim) (Or.inl fun _ z => z) (fun v' n' h9 q => by obtain ⟨q1, rfl, g', rfl, q2⟩ := q; cases q1; exact k g' q2) (fun E n' h9 q => by cases q.1)
end
section
variable {l : Launch} {M : o_M} {d : Nat} {al : Nat → Prop} {post : o_P} {pc : Nat} {ls : List (Nat × Value)} {st : List Value} {n : Nat} {h : Nat → o_C} {mc ms : Nat} {g : Nat → Nat → Int}
theorem s9_pmE {b ci k i : Nat} {fs : List Value} {z : Int} {ty : FieldType} (hd : decode M.2.1 pc = .ok (.putfield i, 3)) (hf : o_fp M.1 i ci k ty) (hh : s9_mem g b = .inr (ci, fs)) (hb : b < n) (hl : k < fs.length) (hn : narrow ty (.int (o_I z)) = .int (o_I z)) (hf2 : fits ty (.int (o_I z)) = true) (hc : ∀ z : Int, Sum.inr (ci, fs.set k (.int (o_I z))) = s9_FF b (o_u (g b) k z) (g 0 9)) (h9 : ¬ (b = 0 ∧ k = 9)) (k9 : ∀ g1, g1 = o_e g b k z → o_V l M d al post (pc + 3) ls st n (s9_mem g1) mc ms) : o_V l M d al post pc ls (.int (o_I z) :: .ref b :: st) n (s9_mem g) mc ms :=
  s9_pm hd hf hh hb hl hn hf2 (hc z) (by rw [o_ew]; unfold o_e; exact if_neg (fun q => h9 ⟨q.1.symm, q.2.symm⟩)) (by rw [o_ew]; exact k9 _ rfl)
end
theorem s9_mem_nr (g : Nat → Nat → Int) (k : Nat) (hk : k < 2) : o_nrC 2 (s9_mem g k) := by
  rcases (show k = 0 ∨ k = 1 by omega) with h0 | h1
  · subst h0
    show ∀ v ∈ ([.ref 1, .int (o_I (g 0 1)), .int (o_I (g 0 2)), .int (o_I (g 0 3))] : List Value), ∀ r : Nat, v = .ref r → r ≠ 2
    intro v hv r hr
    simp only [List.mem_cons, List.not_mem_nil, or_false] at hv
    rcases hv with rfl | rfl | rfl | rfl <;> first | (cases hr; done) | (cases hr; decide)
  · subst h1
    exact trivial
/-- the texts that the builder holds: Latin letters below 128 -/
def s9_sb (g : Nat → Nat → Int) (L : List Int) : Prop := g 0 1 = 0 ∧ (∃ c : Nat, g 0 9 = c ∧ c ≤ 220 ∧ L.length ≤ c ∧ ∀ j, j < c → 0 ≤ g 1 j ∧ g 1 j < 128) ∧ g 0 3 = L.length ∧ ∀ j, j < L.length → g 1 j = L.getD j 0
def s9_cB : Nat → Prop := fun a => a = 0 ∨ a = 1
def s9_a1 : Nat → Prop := fun k => k = 1 ∨ k = 2
section
variable {l : Launch} {M : o_M} {d : Nat} {al : Nat → Prop} {post : o_P} {pc : Nat} {ls : List (Nat × Value)} {st : List Value} {n : Nat} {h : Nat → o_C} {mc ms : Nat} {g : Nat → Nat → Int}
theorem s9_baE {b len : Nat} {i z : Int} (hd : decode M.2.1 pc = .ok (.bastore, 1)) (hh : s9_mem g b = .inl (3, len, .inl (fun j => o_I (g b j)))) (hb : b < n) (hle : len ≤ 2147483647) (h0 : 0 ≤ i) (h1 : i < len) (hz0 : 0 ≤ z) (hz1 : z < 128) (hc : ∀ f' : Nat → Int, (Sum.inl (3, len, .inl (fun j => o_I (f' j))) : o_C) = s9_FF b f' (g 0 9)) (h9 : b ≠ 0) (k9 : ∀ g1, g1 = o_e g b i.toNat z → o_V l M d al post (pc + 1) ls st n (s9_mem g1) mc ms) : o_V l M d al post pc ls (.int (o_I z) :: .int (o_I i) :: .ref b :: st) n (s9_mem g) mc ms :=
  o_bast hd hb hh hle h0 h1 (o_nb z hz0 hz1) (s9_mw (hc _) (by rw [o_ew]; unfold o_e; exact if_neg (fun q => h9 q.1.symm))) (by rw [o_ew]; exact k9 _ rfl)
end
set_option maxRecDepth 100000 in
set_option maxHeartbeats 4000000 in
/-- newCapacity(q) -/
theorem cs_J5_newCapacity_0f7a4 {l : Launch} (hl : l.stackTraces = false) (d : Nat) (g : Nat → Nat → Int) (c : Nat) (h1 : g 0 1 = 0) (hc : g 0 9 = c) (hc2 : c ≤ 220) (q : Int) (hq : 0 ≤ q ∧ q ≤ 1000) : o_Ct l yJ5_newCapacity_0f7a4 wJ5_newCapacity_0f7a4 (d + 2) o_no [.ref 0, .int (o_I q)] s9_N (s9_mem g) 0 0 (o_is (some (.int (o_I (c + max (q - c) (c + 2))))) s9_N (s9_mem g)) := by
  refine o_Ct.ofV hl mJ5_newCapacity_0f7a4 (by decide +kernel) rfl rfl rfl (Nat.le_of_ble_eq_true rfl) ?_
  have e191 : s9_mem g 1 = .inl (3, c, .inl (fun j => o_I (g 1 j))) := by rw [s9_m191, hc, Int.toNat_natCast]
  refine o_aload_n dJ5_newCapacity_0f7a4_0 rfl ?_
  refine o_gf dJ5_newCapacity_0f7a4_1 fl_J5_15 rfl (by decide) rfl ?_
  refine o_alenN dJ5_newCapacity_0f7a4_4 (by decide) e191 rfl ?_
  refine o_istore_n dJ5_newCapacity_0f7a4_5 (by decide) ?_
  refine o_iload_n dJ5_newCapacity_0f7a4_6 rfl ?_
  refine o_aload_n dJ5_newCapacity_0f7a4_7 rfl ?_
  refine o_gf dJ5_newCapacity_0f7a4_8 fl_J5_22 rfl (by decide) rfl ?_
  rw [h1]
  refine o_ishl dJ5_newCapacity_0f7a4_11 ?_
  rw [o_shl0]
  refine o_istore_n dJ5_newCapacity_0f7a4_12 (by decide) ?_
  refine o_iload_n dJ5_newCapacity_0f7a4_13 rfl ?_
  refine o_iload_n dJ5_newCapacity_0f7a4_14 rfl ?_
  refine o_isub dJ5_newCapacity_0f7a4_15 ?_
  refine o_istore dJ5_newCapacity_0f7a4_16 (by decide) ?_
  refine o_iload_n dJ5_newCapacity_0f7a4_18 rfl ?_
  refine o_iload dJ5_newCapacity_0f7a4_19 rfl ?_
  refine o_iload_n dJ5_newCapacity_0f7a4_21 rfl ?_
  refine o_iconst dJ5_newCapacity_0f7a4_22 ?_
  refine o_aload_n dJ5_newCapacity_0f7a4_23 rfl ?_
  refine o_gf dJ5_newCapacity_0f7a4_24 fl_J5_22 rfl (by decide) rfl ?_
  rw [h1]
  refine o_ishl dJ5_newCapacity_0f7a4_27 ?_
  rw [o_shl0]
  refine o_iadd dJ5_newCapacity_0f7a4_28 ?_
  refine o_cS _ (ct_J8_newLength_cabcc hl d s9_N (s9_mem g) c (q - c) (c + 2) (by omega) (by omega) (by omega)) dJ5_newCapacity_0f7a4_29 ml_J5_114 ys_J8_newLength_cabcc rfl (by decide) (by omega) rfl (Nat.le_of_ble_eq_true rfl) ?_
  refine o_istore dJ5_newCapacity_0f7a4_32 (by decide) ?_
  refine o_iload dJ5_newCapacity_0f7a4_34 rfl ?_
  refine o_ldc (z := 2147483647) dJ5_newCapacity_0f7a4_36 (o_gT (i := 1116) (by decide +kernel) rfl) ?_
  refine o_icmp_ne (tgt := 51) dJ5_newCapacity_0f7a4_38 (by decide) ⟨by omega, by omega⟩ ⟨by omega, by omega⟩ (fun c_38 => ?_) (fun c_38 => ?_)
  · skip
    refine o_iload dJ5_newCapacity_0f7a4_51 rfl ?_
    refine o_aload_n dJ5_newCapacity_0f7a4_53 rfl ?_
    refine o_gf dJ5_newCapacity_0f7a4_54 fl_J5_22 rfl (by decide) rfl ?_
    rw [h1]
    refine o_ishr dJ5_newCapacity_0f7a4_57 ?_
    rw [o_shr0]
    refine o_ret1 dJ5_newCapacity_0f7a4_58 trivial ?_
    exact ⟨rfl, rfl, rfl⟩
  · skip
    exfalso
    omega
set_option maxRecDepth 100000 in
set_option maxHeartbeats 4000000 in
/-- copyOf(the builder's bytes, q) -/
theorem cs_J7_copyOf_9075b {l : Launch} (hl : l.stackTraces = false) (d : Nat) (g : Nat → Nat → Int) (c q : Nat) (hc : g 0 9 = c) (hb : ∀ j, j < c → 0 ≤ g 1 j ∧ g 1 j < 128) (hq : c < q) (hq2 : q ≤ 300) : o_Ct l yJ7_copyOf_9075b wJ7_copyOf_9075b (d + 1) (fun k => k = 2) [.ref 1, .int (o_I (q : Int))] s9_N (s9_mem g) 1 q (fun o n' h' => o = .inl (some (.ref 2)) ∧ n' = 3 ∧ h' = o_up (s9_mem g) 2 (.inl (3, q, .inl (fun j => o_I (va_cpy (fun j => g 1 j) (fun _ => 0) 0 0 c j))))) := by
  refine o_Ct.ofV hl mJ7_copyOf_9075b (by decide +kernel) rfl rfl rfl (Nat.le_of_ble_eq_true rfl) ?_
  have e191 : s9_mem g 1 = .inl (3, c, .inl (fun j => o_I (g 1 j))) := by rw [s9_m191, hc, Int.toNat_natCast]
  refine o_iload_n dJ7_copyOf_9075b_0 rfl ?_
  refine o_aload_n dJ7_copyOf_9075b_1 rfl ?_
  refine o_alenN dJ7_copyOf_9075b_2 (by decide) e191 rfl ?_
  refine o_icmp_ne (tgt := 14) dJ7_copyOf_9075b_3 (by decide) ⟨by omega, by omega⟩ ⟨by omega, by omega⟩ (fun c_3 => ?_) (fun c_3 => ?_)
  · skip
    refine o_iload_n dJ7_copyOf_9075b_14 rfl ?_
    refine o_newaB (N := q) (t := 3) (x := (q, .inl (fun _ => o_I 0))) (s9_mem_nr g) (by decide) rfl dJ7_copyOf_9075b_15 rfl rfl (o_gT (i := 306) (by decide +kernel) rfl) (fun _ => rfl) (fun _ => rfl) (by omega) ⟨fun x hx k hk => ?_, fun x hx k hk => ?_⟩ (Nat.le_refl _) (Nat.le_refl _) ?_
    · simp only [lv_args, List.mem_cons, List.not_mem_nil, or_false] at hx
      rcases hx with rfl | rfl
      · cases hk; decide
      · cases hk
    · cases hx
    refine o_astore_n dJ7_copyOf_9075b_17 (by decide) ?_
    refine o_aload_n dJ7_copyOf_9075b_18 rfl ?_
    refine o_iconst dJ7_copyOf_9075b_19 ?_
    refine o_aload_n dJ7_copyOf_9075b_20 rfl ?_
    refine o_iconst dJ7_copyOf_9075b_21 ?_
    refine o_aload_n dJ7_copyOf_9075b_22 rfl ?_
    refine o_alenN (f := .inl (fun j => o_I (g 1 j))) dJ7_copyOf_9075b_23 (by decide) (by show o_up _ _ _ _ = _; unfold o_up; rw [if_neg (by decide)]; exact e191) rfl ?_
    refine o_iload_n dJ7_copyOf_9075b_24 rfl ?_
    refine o_mmin dJ7_copyOf_9075b_25 ml_J7_304 o_minS.1 o_minS.2.1 o_minS.2.2 ⟨by omega, by omega⟩ ⟨by omega, by omega⟩ (Nat.le_of_ble_eq_true rfl) ?_
    rw [show min (c : Int) (q : Int) = c by omega]
    refine o_copyb (sp := 0) (dp := 0) (m0 := (c : Int)) dJ7_copyOf_9075b_28 (o_gT (i := 1128) (by decide +kernel) rfl) (o_gT (i := 1130) (by decide +kernel) rfl) (o_gT (i := 1129) (by decide +kernel) rfl) (o_gT (i := 30) (by decide +kernel) rfl) (by decide) (by decide) (by show o_up _ _ _ _ = _; unfold o_up; rw [if_neg (by decide)]; exact e191) rfl (by omega) (by omega) (by omega) (by omega) (by omega) (by omega) (by omega) (fun i hi => by have := hb i (by omega); simpa using this) (Nat.le_of_ble_eq_true rfl) rfl ?_
    refine o_aload_n dJ7_copyOf_9075b_31 rfl ?_
    refine o_ret1 dJ7_copyOf_9075b_32 (Or.inr ⟨_, rfl⟩) ?_
    refine ⟨rfl, rfl, ?_⟩
    funext k
    unfold o_up
    by_cases z : k = 2
    · rw [if_pos z, if_pos z]; simp
    · rw [if_neg z, if_neg z, if_neg z]
  · skip
    exfalso
    omega

def s9_lrB (ls : List (Nat × Value)) : Bool := ls.all (fun q => match q.2 with | .ref k => k != 1 && k != 2 | _ => true)
def s9_lrS (st : List Value) : Bool := st.all (fun v => match v with | .ref k => k != 1 && k != 2 | _ => true)
theorem s9_lrB_ok {ls : List (Nat × Value)} (h : s9_lrB ls = true) : ∀ q ∈ ls, ∀ k : Nat, q.2 = .ref k → ¬ s9_a1 k := by
  intro q hq k hk ha
  have h1 := List.all_eq_true.mp h q hq
  rw [hk] at h1
  rcases ha with rfl | rfl <;> exact absurd h1 (by decide)
theorem s9_lrS_ok {st : List Value} (h : s9_lrS st = true) : ∀ v ∈ st, ∀ k : Nat, v = .ref k → ¬ s9_a1 k := by
  intro v hv k hk ha
  have h1 := List.all_eq_true.mp h v hv
  rw [hk] at h1
  rcases ha with rfl | rfl <;> exact absurd h1 (by decide)
theorem s9_a1_lt : ∀ k, s9_a1 k → k < 1000000 := fun k h => by rcases h with rfl | rfl <;> decide
section
variable {l : Launch} {M : o_M} {d : Nat} {post : o_P} {pc : Nat} {ls : List (Nat × Value)} {st : List Value} {n : Nat} {h : Nat → o_C} {mc ms : Nat}
/-- a call behind which the builder's array may have moved -/
theorem s9_cVa {y : MethodName} {yb : ByteArray} {yL dy index b mcy msy : Nat} {yr : Option FieldType} (C : String) (As : List Value) {rest : List Value} {v : Option Value} {Q : (Nat → Nat → Int) → Prop}
    (hC : o_Ct l y (.code y yb yL yr) dy s9_a1 (.ref b :: As) n h mcy msy (s9_mt v Q)) (hd : decode M.2.1 pc = .ok (.invokevirtual index, 3)) (hw : Cond.methodLink M.1 index y ∈ o_gW) (hyw : o_yW C y (.code y yb yL yr)) (hyd : o_yd y As.length = true) (hyL : yL ≤ 21)
    (hdy : dy < d) (hm : mcy ≤ mc) (hs : msy ≤ ms) (hrec : o_rec C b n h) (hst : st = As.reverse ++ .ref b :: rest) (hcat : (rest.map fun v => v.category).sum ≤ 8) (h1 : s9_lrB ls = true) (h2 : s9_lrS rest = true)
    (k : ∀ g', Q g' → o_V l M d s9_a1 post (pc + 3) ls (v.toList ++ rest) s9_N (s9_mem g') (mc - mcy) (ms - msy)) : o_V l M d s9_a1 post pc ls st n h mc ms :=
  o_callG C As hC hd hw hyw hyd hyL hdy hm hs hrec hst hcat (fun _ z => z) s9_a1_lt (Or.inr ⟨s9_lrB_ok h1, s9_lrS_ok h2⟩) (fun v' n' h9 q => by obtain ⟨q1, rfl, g', rfl, q2⟩ := q; cases q1; exact k g' q2) (fun E n' h9 q => by cases q.1)
end
section
variable {l : Launch} {M : o_M} {d : Nat} {post : o_P} {pc : Nat} {ls : List (Nat × Value)} {st : List Value} {n : Nat} {h : Nat → o_C} {mc ms : Nat}
theorem s9_cSUa {y : MethodName} {yb : ByteArray} {yL dy index b ci N mcy msy : Nat} {yr : Option FieldType} {C : String} {T : u_T} {fs : List Value} (As : List Value) {rest : List Value} {v : Option Value} {Q : (Nat → Nat → Int) → Prop}
    (hC : o_Ct l y (.code y yb yL yr) dy s9_a1 (.ref b :: As) n h mcy msy (s9_mt v Q)) (hd : decode M.2.1 pc = .ok (.invokespecial index, 3)) (hw : ∀ w ∈ va_wsSU M.1 index y [], w ∈ o_gW) (hco : Cond.code y yb yL yr ∈ o_gW) (hyd : y.name ≠ "<init>" ∧ (parseMethodDescriptor y.desc).map (fun d => d.parameters.length) = some As.length) (hyL : yL ≤ 21)
    (hdy : dy < d) (hm : mcy ≤ mc) (hs : msy ≤ ms) (hb : b < n) (hh : h b = .inr (ci, fs)) (hc : o_cl[ci]? = some (C, T, N)) (hst : st = As.reverse ++ .ref b :: rest) (hcat : (rest.map fun v => v.category).sum ≤ 8) (h1 : s9_lrB ls = true) (h2 : s9_lrS rest = true)
    (k : ∀ g', Q g' → o_V l M d s9_a1 post (pc + 3) ls (v.toList ++ rest) s9_N (s9_mem g') (mc - mcy) (ms - msy)) : o_V l M d s9_a1 post pc ls st n h mc ms :=
  o_callSU As hC hd hw hco hyd hyL hdy hm hs hb hh hc hst hcat (fun _ z => z) s9_a1_lt (Or.inr ⟨s9_lrB_ok h1, s9_lrS_ok h2⟩) (fun v' n' h9 q => by obtain ⟨q1, rfl, g', rfl, q2⟩ := q; cases q1; exact k g' q2) (fun E n' h9 q => by cases q.1)
end
set_option maxRecDepth 100000 in
set_option maxHeartbeats 4000000 in
/-- isLatin1 -/
theorem cs_J5_isLatin1_aae02 {l : Launch} (hl : l.stackTraces = false) (d : Nat) (g : Nat → Nat → Int) (h1 : g 0 1 = 0) : o_Ct l yJ5_isLatin1_aae02 wJ5_isLatin1_aae02 (d + 1) o_no [.ref 0] s9_N (s9_mem g) 0 0 (o_is (some (.int (o_I 1))) s9_N (s9_mem g)) := by
  refine o_Ct.ofV hl mJ5_isLatin1_aae02 (by decide +kernel) rfl rfl rfl (Nat.le_of_ble_eq_true rfl) ?_
  refine o_gs dJ5_isLatin1_aae02_0 (o_gT (i := 283) (by decide +kernel) rfl) z_C ?_
  refine o_if_eq (tgt := 17) dJ5_isLatin1_aae02_3 (by decide) ⟨by omega, by omega⟩ (fun c_3 => ?_) (fun c_3 => ?_)
  · skip
    exfalso
    omega
  · skip
    refine o_aload_n dJ5_isLatin1_aae02_6 rfl ?_
    refine o_gf dJ5_isLatin1_aae02_7 fl_J5_22 rfl (by decide) rfl ?_
    rw [h1]
    refine o_if_ne (tgt := 17) dJ5_isLatin1_aae02_10 (by decide) ⟨by omega, by omega⟩ (fun c_10 => ?_) (fun c_10 => ?_)
    · skip
      exfalso
      omega
    · skip
      refine o_iconst dJ5_isLatin1_aae02_13 ?_
      refine o_goto (tgt := 18) dJ5_isLatin1_aae02_14 (by decide) ?_
      refine o_ret1 dJ5_isLatin1_aae02_18 (by first | exact o_rb0 | exact o_rb1 | exact o_bn _) ?_
      exact ⟨rfl, rfl, rfl⟩
def s9_gB (g : Nat → Nat → Int) (c q : Nat) : Nat → Nat → Int := fun a j => if a = 0 ∧ j = 9 then (q : Int) else if a = 1 then va_cpy (fun j => g 1 j) (fun _ => (0 : Int)) 0 0 c j else g a j
theorem s9_gB_n {g : Nat → Nat → Int} {c q a : Nat} (h0 : a ≠ 0) (h1 : a ≠ 1) : s9_gB g c q a = g a := by funext j; simp [s9_gB, h0, h1]
theorem s9_gB_k {g : Nat → Nat → Int} {c q j : Nat} (h : j ≠ 9) : s9_gB g c q 0 j = g 0 j := by simp [s9_gB, h]
theorem s9_gB_9 {g : Nat → Nat → Int} {c q : Nat} : s9_gB g c q 0 9 = q := by simp [s9_gB]
theorem s9_gB_c {g : Nat → Nat → Int} {c q j : Nat} : s9_gB g c q 1 j = if j < c then g 1 j else 0 := by simp [s9_gB, va_cpy]
theorem s9_gB_sb {g : Nat → Nat → Int} {L : List Int} {c q : Nat} (h : s9_sb g L) (hc : g 0 9 = c) (hq : c ≤ q) (hq2 : q ≤ 220) : s9_sb (s9_gB g c q) L := by
  obtain ⟨h1, ⟨c1, h2, h3, h4, h5⟩, h6, h7⟩ := h
  have e : c1 = c := by omega
  subst e
  refine ⟨by rw [s9_gB_k (by decide)]; exact h1, ⟨q, s9_gB_9, hq2, by omega, fun j hj => ?_⟩, by rw [s9_gB_k (by decide)]; exact h6, fun j hj => ?_⟩
  · rw [s9_gB_c]
    split
    · exact h5 j (by assumption)
    · omega
  · rw [s9_gB_c, if_pos (by omega)]; exact h7 j hj
theorem s9_gB_fr {g : Nat → Nat → Int} {c q : Nat} : o_fr s9_cB g (s9_gB g c q) := fun a ha => s9_gB_n (fun z => ha (Or.inl z)) (fun z => ha (Or.inr z))
theorem s9_swB {g : Nat → Nat → Int} {c q : Nat} {A : o_C} (ad ad' : Nat → Nat) (e : ∀ k, k ≠ 1 → k ≠ 2 → ad' k = ad k) (e1 : ad' 1 = ad 2) (cy : Nat → ClassId) (k : Nat) (hk : k < 2) (h1 : k ≠ 1) : o_rC ad' cy (s9_mem (s9_gB g c q) k) = o_rC ad cy (o_up (o_up (s9_mem g) 2 A) 0 (.inr (11, [.ref 2, .int (o_I (g 0 1)), .int (o_I (g 0 2)), .int (o_I (g 0 3))])) k) := by
  have h0 : k = 0 := by omega
  subst h0
  show Sum.inr (11, [Value.ref (ad' 1), .int (o_I (s9_gB g c q 0 1)), .int (o_I (s9_gB g c q 0 2)), .int (o_I (s9_gB g c q 0 3))]) = Sum.inr (11, [Value.ref (ad 2), .int (o_I (g 0 1)), .int (o_I (g 0 2)), .int (o_I (g 0 3))])
  rw [e1, s9_gB_k (by decide), s9_gB_k (by decide), s9_gB_k (by decide)]
set_option maxRecDepth 100000 in
set_option maxHeartbeats 4000000 in
/-- ensureCapacityInternal(q) -/
theorem cs_J5_ensureCapacityInternal_d00df {l : Launch} (hl : l.stackTraces = false) (d : Nat) (g : Nat → Nat → Int) (L : List Int) (hsb : s9_sb g L) (q : Int) (hq : 0 ≤ q ∧ q ≤ 109) : o_Ct l yJ5_ensureCapacityInternal_d00df wJ5_ensureCapacityInternal_d00df (d + 3) s9_a1 [.ref 0, .int (o_I q)] s9_N (s9_mem g) 1 220 (s9_mt none (fun g' => s9_sb g' L ∧ o_fr s9_cB g g' ∧ ∃ c' : Nat, g' 0 9 = c' ∧ q ≤ c')) := by
  refine o_Ct.ofV hl mJ5_ensureCapacityInternal_d00df (by decide +kernel) rfl rfl rfl (Nat.le_of_ble_eq_true rfl) ?_
  obtain ⟨h1, ⟨c, hc, hc2, hc3, hc4⟩, hc5, hc6⟩ := id hsb
  have e191 : s9_mem g 1 = .inl (3, c, .inl (fun j => o_I (g 1 j))) := by rw [s9_m191, hc, Int.toNat_natCast]
  refine o_aload_n dJ5_ensureCapacityInternal_d00df_0 rfl ?_
  refine o_gf dJ5_ensureCapacityInternal_d00df_1 fl_J5_15 rfl (by decide) rfl ?_
  refine o_alenN dJ5_ensureCapacityInternal_d00df_4 (by decide) e191 rfl ?_
  refine o_aload_n dJ5_ensureCapacityInternal_d00df_5 rfl ?_
  refine o_gf dJ5_ensureCapacityInternal_d00df_6 fl_J5_22 rfl (by decide) rfl ?_
  rw [h1]
  refine o_ishr dJ5_ensureCapacityInternal_d00df_9 ?_
  rw [o_shr0]
  refine o_istore_n dJ5_ensureCapacityInternal_d00df_10 (by decide) ?_
  refine o_iload_n dJ5_ensureCapacityInternal_d00df_11 rfl ?_
  refine o_iload_n dJ5_ensureCapacityInternal_d00df_12 rfl ?_
  refine o_isub dJ5_ensureCapacityInternal_d00df_13 ?_
  refine o_if_le (tgt := 38) dJ5_ensureCapacityInternal_d00df_14 (by decide) ⟨by omega, by omega⟩ (fun c_14 => ?_) (fun c_14 => ?_)
  · skip
    refine o_ret0 dJ5_ensureCapacityInternal_d00df_38 trivial ?_
    exact ⟨rfl, rfl, _, rfl, hsb, o_fr_r, c, hc, by omega⟩
  · skip
    refine o_aload_n dJ5_ensureCapacityInternal_d00df_17 rfl ?_
    refine o_aload_n dJ5_ensureCapacityInternal_d00df_18 rfl ?_
    refine o_gf dJ5_ensureCapacityInternal_d00df_19 fl_J5_15 rfl (by decide) rfl ?_
    refine o_aload_n dJ5_ensureCapacityInternal_d00df_22 rfl ?_
    refine o_iload_n dJ5_ensureCapacityInternal_d00df_23 rfl ?_
    refine o_cG RJ4 _ (cs_J5_newCapacity_0f7a4 hl d g c h1 hc hc2 q (by omega)) dJ5_ensureCapacityInternal_d00df_24 ml_J5_104 yW_ncp rfl (by decide) (by omega) (o_recW (by decide) rfl rfl) rfl (Nat.le_of_ble_eq_true rfl) ?_
    refine o_aload_n dJ5_ensureCapacityInternal_d00df_27 rfl ?_
    refine o_gf dJ5_ensureCapacityInternal_d00df_28 fl_J5_22 rfl (by decide) rfl ?_
    rw [h1]
    refine o_ishl dJ5_ensureCapacityInternal_d00df_31 ?_
    rw [o_shl0]
    obtain ⟨q9, hq9⟩ : ∃ q9 : Nat, (q9 : Int) = c + max (q - c) (c + 2) := ⟨(c + max (q - c) (c + 2) : Int).toNat, by omega⟩
    rw [← hq9]
    refine o_loc [(0, .ref 0), (1, .int (o_I q)), (2, .int (o_I (c : Int)))] rfl ?_
    refine o_callS (aly := fun k => k = 2) [.ref 1, .int (o_I (q9 : Int))] (rest := [.ref 0]) (cs_J7_copyOf_9075b hl d g c q9 hc hc4 (by omega) (by omega)) dJ5_ensureCapacityInternal_d00df_32 ml_J5_108 ys_J7_copyOf_9075b rfl (by decide) (by omega) (by omega) (by omega) rfl (Nat.le_of_ble_eq_true rfl) (fun k z => Or.inr z) (fun k z => by rw [z]; decide) (Or.inr ⟨fun x hx k hk z => s9_lrB_ok (ls := [(0, .ref 0), (1, .int (o_I q)), (2, .int (o_I (c : Int)))]) rfl x hx k hk (Or.inr z), fun v hv k hk z => s9_lrS_ok (st := [.ref 0]) rfl v hv k hk (Or.inr z)⟩) (fun v' n' h' hp => ?_) (fun E n' h' hp => by cases hp.1)
    obtain ⟨hv, rfl, rfl⟩ := hp
    cases hv
    refine o_pf (k := 0) dJ5_ensureCapacityInternal_d00df_35 fp_J5_15 rfl (by decide) (Nat.le_of_ble_eq_true rfl) (fun _ => rfl) (fun _ => rfl) rfl ?_
    refine o_swap (a := 1) (n := 2) (h' := s9_mem (s9_gB g c q9)) (by decide) (by decide) (Or.inl rfl) ?_ ?_ ?_ (fun ad ad' e e1 cy k hk h1 => s9_swB ad ad' e e1 cy k hk h1) (fun _ _ _ => rfl) ?_
    · exact ⟨fun x hx k hk z => s9_lrB_ok (ls := [(0, .ref 0), (1, .int (o_I q)), (2, .int (o_I (c : Int)))]) rfl x hx k hk (Or.inl z), fun v hv => by cases hv⟩
    · exact ⟨fun x hx k hk z => s9_lrB_ok (ls := [(0, .ref 0), (1, .int (o_I q)), (2, .int (o_I (c : Int)))]) rfl x hx k hk (Or.inr z), fun v hv => by cases hv⟩
    · show s9_mem (s9_gB g c q9) 1 = _
      rw [s9_m191, s9_gB_9, Int.toNat_natCast]
      rfl
    refine o_ret0 dJ5_ensureCapacityInternal_d00df_38 trivial ?_
    exact ⟨rfl, rfl, _, rfl, s9_gB_sb hsb hc (by omega) (by omega), s9_gB_fr, q9, s9_gB_9, by omega⟩

/-- L stands in the builder's array from a on -/
def s9_wr (g : Nat → Nat → Int) (a : Nat) (L : List Int) (g' : Nat → Nat → Int) : Prop := (∀ x, x ≠ 1 → g' x = g x) ∧ ∀ j, g' 1 j = if a ≤ j ∧ j < a + L.length then L.getD (j - a) 0 else g 1 j
theorem s9_wr_2 {g g1 g2 g' : Nat → Nat → Int} {L : List Int} {a cp : Nat} {x y : Int} (h1 : g1 = o_e g 1 (cp - 1) y) (h2 : g2 = o_e g1 1 (cp - 2) x) (hc : 2 ≤ cp) (ha : a + L.length = cp - 2) (h : s9_wr g2 a L g') : s9_wr g a (L ++ [x] ++ [y]) g' := by
  refine ⟨fun z hz => by rw [h.1 z hz, h2, o_e_n hz, h1, o_e_n hz], fun j => ?_⟩
  have hl : (L ++ [x] ++ [y]).length = L.length + 2 := by rw [List.length_append, List.length_append]; rfl
  rw [h.2 j, hl]
  by_cases q1 : a ≤ j ∧ j < a + L.length
  · rw [if_pos q1, if_pos (by omega), o_getD_app (by rw [List.length_append, List.length_append]; omega), if_neg (by rw [List.length_append]; show j - a ≠ L.length + 1; omega), o_getD_app (by rw [List.length_append]; omega), if_neg (by omega)]
  · rw [if_neg q1]
    by_cases q2 : j = cp - 2
    · rw [if_pos (by omega), o_getD_app (by rw [List.length_append, List.length_append]; show j - a < L.length + 1 + 1; omega), if_neg (by rw [List.length_append]; show j - a ≠ L.length + 1; omega), o_getD_app (by rw [List.length_append]; show j - a < L.length + 1; omega), if_pos (by omega), h2, q2, o_e_s]
    · by_cases q3 : j = cp - 1
      · rw [if_pos (by omega), o_getD_app (by rw [List.length_append, List.length_append]; show j - a < L.length + 1 + 1; omega), if_pos (by rw [List.length_append]; show j - a = L.length + 1; omega), h2, o_e_k q2, h1, q3, o_e_s]
      · rw [if_neg (by omega), h2, o_e_k q2, h1, o_e_k q3]
set_option maxRecDepth 100000 in
set_option maxHeartbeats 4000000 in
theorem s9_gc_loop {l : Launch} {d : Nat} {al : Nat → Prop} {post : o_P} {mc ms : Nat} (ix c : Nat) (hc : c ≤ 220) : ∀ (f w cp : Nat) (g : Nat → Nat → Int), w < 100 ^ (f + 1) → w < 100000000 → (t_nf 8 w).length ≤ cp → cp ≤ c → g 0 9 = c → (∀ g', s9_wr g (cp - (t_nf 8 w).length) (t_nf 8 w) g' → post (.inl (some (.int (o_I ((cp - (t_nf 8 w).length : Nat) : Int))))) s9_N (s9_mem g')) → o_V l mJ6_getChars_ba4f3 d al post 22 [(0, .int (o_I (-(w : Int)))), (1, .int (o_I (ix : Int))), (2, .ref 1), (5, .int (o_I (cp : Int))), (6, .int (o_I 0))] [] s9_N (s9_mem g) mc ms := by
  intro f
  induction f with
  | zero =>
    intro w cp g hw hw2 hl hcp hg9 hp
    have hw : w < 100 := hw
    refine o_iload_n dJ6_getChars_ba4f3_22 rfl ?_
    refine o_bipush dJ6_getChars_ba4f3_23 (by decide) ?_
    refine o_icmp_gt (tgt := 72) dJ6_getChars_ba4f3_25 (by decide) ⟨by omega, by omega⟩ ⟨by decide, by decide⟩ (fun c_25 => ?_) (fun c_25 => absurd (by omega) c_25)
    have hl1 : 1 ≤ (t_nf 8 w).length := t_nf_pos 7 w
    refine o_aload_n dJ6_getChars_ba4f3_72 rfl ?_
    refine o_iinc dJ6_getChars_ba4f3_73 rfl (by decide) ?_
    refine o_iload dJ6_getChars_ba4f3_76 rfl ?_
    refine o_gs dJ6_getChars_ba4f3_78 (o_gT (i := 1219) (by decide +kernel) rfl) z_D1 ?_
    refine o_iload_n dJ6_getChars_ba4f3_81 rfl ?_
    refine o_ineg dJ6_getChars_ba4f3_82 ?_
    rw [show (- -(w : Int)) = (w : Int) by omega]
    refine o_tbC (z := o_I (48 + ((w % 10 : Nat) : Int))) dJ6_getChars_ba4f3_83 z_D1t (by omega) (by omega) (by decide) (by rw [Int.toNat_natCast, o_nI]; congr 2) ?_
    refine s9_baE (len := c) dJ6_getChars_ba4f3_84 (by rw [s9_m191, hg9, Int.toNat_natCast]) (by decide) (by omega) (by omega) (by omega) (by omega) (by omega) (fun _ => by show _ = Sum.inl (3, (g 0 9).toNat, _); rw [hg9, Int.toNat_natCast]) (by decide) (fun g_84 e_84 => ?_)
    rw [show ((cp : Int) + -1).toNat = cp - 1 by omega] at e_84
    refine o_iload_n dJ6_getChars_ba4f3_85 rfl ?_
    refine o_bipush dJ6_getChars_ba4f3_86 (by decide) ?_
    refine o_icmp_ge (tgt := 104) dJ6_getChars_ba4f3_88 (by decide) ⟨by omega, by omega⟩ ⟨by decide, by decide⟩ (fun c_88 => ?_) (fun c_88 => ?_)
    · have e8 : t_nf 8 w = [48 + ((w % 10 : Nat) : Int)] := by show (if 9 < w then _ else _) ++ _ = _; rw [if_neg (by omega)]; rfl
      refine o_iload dJ6_getChars_ba4f3_104 rfl ?_
      refine o_if_eq (tgt := 118) dJ6_getChars_ba4f3_106 (by decide) ⟨by omega, by omega⟩ (fun _ => ?_) (fun c => absurd rfl c)
      refine o_iload dJ6_getChars_ba4f3_118 rfl ?_
      refine o_ret1 dJ6_getChars_ba4f3_120 trivial ?_
      rw [e8] at hp hl
      have hl : 1 ≤ cp := hl
      have h9 := hp g_84 ⟨fun x hx => by rw [e_84, o_e_n hx], fun j => by
        show g_84 1 j = if cp - 1 ≤ j ∧ j < cp - 1 + 1 then _ else _
        rw [e_84]
        by_cases q : j = cp - 1
        · rw [if_pos (by omega), q, o_e_s]
          show _ = [48 + ((w % 10 : Nat) : Int)].getD (cp - 1 - (cp - 1)) 0
          rw [Nat.sub_self]; rfl
        · rw [if_neg (by omega), o_e_k q]⟩
      rw [show ((cp : Int) + -1) = ((cp - 1 : Nat) : Int) by omega]
      exact h9
    · have e8 : t_nf 8 w = [48 + ((w / 10 : Nat) : Int)] ++ [48 + ((w % 10 : Nat) : Int)] := by
        have e1 : t_nf 8 w = t_nf 7 (w / 10) ++ [48 + ((w % 10 : Nat) : Int)] := by
          show (if 9 < w then _ else _) ++ _ = _
          rw [if_pos (by omega)]
        have e2 : t_nf 7 (w / 10) = [48 + ((w / 10 : Nat) : Int)] := by
          show (if 9 < w / 10 then _ else _) ++ _ = _
          rw [if_neg (by omega), show w / 10 % 10 = w / 10 by omega]; rfl
        rw [e1, e2]
      rw [e8] at hp hl
      have hl : 2 ≤ cp := hl
      refine o_aload_n dJ6_getChars_ba4f3_91 rfl ?_
      refine o_iinc dJ6_getChars_ba4f3_92 rfl (by decide) ?_
      refine o_iload dJ6_getChars_ba4f3_95 rfl ?_
      refine o_gs dJ6_getChars_ba4f3_97 (o_gT (i := 1221) (by decide +kernel) rfl) z_D2 ?_
      refine o_iload_n dJ6_getChars_ba4f3_100 rfl ?_
      refine o_ineg dJ6_getChars_ba4f3_101 ?_
      rw [show (- -(w : Int)) = (w : Int) by omega]
      refine o_tbC (z := o_I (48 + ((w / 10 : Nat) : Int))) dJ6_getChars_ba4f3_102 z_D2t (by omega) (by omega) (by decide) (by rw [Int.toNat_natCast, o_nI]; congr 2) ?_
      have k9 : g_84 0 9 = c := by rw [e_84, o_e_n (by decide)]; exact hg9
      refine s9_baE (len := c) dJ6_getChars_ba4f3_103 (by rw [s9_m191, k9, Int.toNat_natCast]) (by decide) (by omega) (by omega) (by omega) (by omega) (by omega) (fun _ => by show _ = Sum.inl (3, (g_84 0 9).toNat, _); rw [k9, Int.toNat_natCast]) (by decide) (fun g_103 e_103 => ?_)
      rw [show ((cp : Int) + -1 + -1).toNat = cp - 2 by omega] at e_103
      refine o_iload dJ6_getChars_ba4f3_104 rfl ?_
      refine o_if_eq (tgt := 118) dJ6_getChars_ba4f3_106 (by decide) ⟨by omega, by omega⟩ (fun _ => ?_) (fun c => absurd rfl c)
      refine o_iload dJ6_getChars_ba4f3_118 rfl ?_
      refine o_ret1 dJ6_getChars_ba4f3_120 trivial ?_
      have h9 := hp g_103 (s9_wr_2 (L := []) e_84 e_103 (by omega) (by show cp - 2 + 0 = cp - 2; omega) ⟨fun x hx => rfl, fun j => by rw [if_neg (by show ¬ (cp - 2 ≤ j ∧ j < cp - 2 + 0); omega)]⟩)
      rw [show ((cp : Int) + -1 + -1) = ((cp - 2 : Nat) : Int) by omega]
      exact h9
  | succ f ih =>
    intro w cp g hw hw2 hl hcp hg9 hp
    have hl1 : 1 ≤ (t_nf 8 w).length := t_nf_pos 7 w
    refine o_iload_n dJ6_getChars_ba4f3_22 rfl ?_
    refine o_bipush dJ6_getChars_ba4f3_23 (by decide) ?_
    refine o_icmp_gt (tgt := 72) dJ6_getChars_ba4f3_25 (by decide) ⟨by omega, by omega⟩ ⟨by decide, by decide⟩ (fun c_25 => ?_) (fun c_25 => ?_)
    · skip
      refine o_aload_n dJ6_getChars_ba4f3_72 rfl ?_
      refine o_iinc dJ6_getChars_ba4f3_73 rfl (by decide) ?_
      refine o_iload dJ6_getChars_ba4f3_76 rfl ?_
      refine o_gs dJ6_getChars_ba4f3_78 (o_gT (i := 1219) (by decide +kernel) rfl) z_D1 ?_
      refine o_iload_n dJ6_getChars_ba4f3_81 rfl ?_
      refine o_ineg dJ6_getChars_ba4f3_82 ?_
      rw [show (- -(w : Int)) = (w : Int) by omega]
      refine o_tbC (z := o_I (48 + ((w % 10 : Nat) : Int))) dJ6_getChars_ba4f3_83 z_D1t (by omega) (by omega) (by decide) (by rw [Int.toNat_natCast, o_nI]; congr 2) ?_
      refine s9_baE (len := c) dJ6_getChars_ba4f3_84 (by rw [s9_m191, hg9, Int.toNat_natCast]) (by decide) (by omega) (by omega) (by omega) (by omega) (by omega) (fun _ => by show _ = Sum.inl (3, (g 0 9).toNat, _); rw [hg9, Int.toNat_natCast]) (by decide) (fun g_84 e_84 => ?_)
      rw [show ((cp : Int) + -1).toNat = cp - 1 by omega] at e_84
      refine o_iload_n dJ6_getChars_ba4f3_85 rfl ?_
      refine o_bipush dJ6_getChars_ba4f3_86 (by decide) ?_
      refine o_icmp_ge (tgt := 104) dJ6_getChars_ba4f3_88 (by decide) ⟨by omega, by omega⟩ ⟨by decide, by decide⟩ (fun c_88 => ?_) (fun c_88 => ?_)
      · have e8 : t_nf 8 w = [48 + ((w % 10 : Nat) : Int)] := by show (if 9 < w then _ else _) ++ _ = _; rw [if_neg (by omega)]; rfl
        refine o_iload dJ6_getChars_ba4f3_104 rfl ?_
        refine o_if_eq (tgt := 118) dJ6_getChars_ba4f3_106 (by decide) ⟨by omega, by omega⟩ (fun _ => ?_) (fun c => absurd rfl c)
        refine o_iload dJ6_getChars_ba4f3_118 rfl ?_
        refine o_ret1 dJ6_getChars_ba4f3_120 trivial ?_
        rw [e8] at hp hl
        have hl : 1 ≤ cp := hl
        have h9 := hp g_84 ⟨fun x hx => by rw [e_84, o_e_n hx], fun j => by
          show g_84 1 j = if cp - 1 ≤ j ∧ j < cp - 1 + 1 then _ else _
          rw [e_84]
          by_cases q : j = cp - 1
          · rw [if_pos (by omega), q, o_e_s]
            show _ = [48 + ((w % 10 : Nat) : Int)].getD (cp - 1 - (cp - 1)) 0
            rw [Nat.sub_self]; rfl
          · rw [if_neg (by omega), o_e_k q]⟩
        rw [show ((cp : Int) + -1) = ((cp - 1 : Nat) : Int) by omega]
        exact h9
      · have e8 : t_nf 8 w = [48 + ((w / 10 : Nat) : Int)] ++ [48 + ((w % 10 : Nat) : Int)] := by
          have e1 : t_nf 8 w = t_nf 7 (w / 10) ++ [48 + ((w % 10 : Nat) : Int)] := by
            show (if 9 < w then _ else _) ++ _ = _
            rw [if_pos (by omega)]
          have e2 : t_nf 7 (w / 10) = [48 + ((w / 10 : Nat) : Int)] := by
            show (if 9 < w / 10 then _ else _) ++ _ = _
            rw [if_neg (by omega), show w / 10 % 10 = w / 10 by omega]; rfl
          rw [e1, e2]
        rw [e8] at hp hl
        have hl : 2 ≤ cp := hl
        refine o_aload_n dJ6_getChars_ba4f3_91 rfl ?_
        refine o_iinc dJ6_getChars_ba4f3_92 rfl (by decide) ?_
        refine o_iload dJ6_getChars_ba4f3_95 rfl ?_
        refine o_gs dJ6_getChars_ba4f3_97 (o_gT (i := 1221) (by decide +kernel) rfl) z_D2 ?_
        refine o_iload_n dJ6_getChars_ba4f3_100 rfl ?_
        refine o_ineg dJ6_getChars_ba4f3_101 ?_
        rw [show (- -(w : Int)) = (w : Int) by omega]
        refine o_tbC (z := o_I (48 + ((w / 10 : Nat) : Int))) dJ6_getChars_ba4f3_102 z_D2t (by omega) (by omega) (by decide) (by rw [Int.toNat_natCast, o_nI]; congr 2) ?_
        have k9 : g_84 0 9 = c := by rw [e_84, o_e_n (by decide)]; exact hg9
        refine s9_baE (len := c) dJ6_getChars_ba4f3_103 (by rw [s9_m191, k9, Int.toNat_natCast]) (by decide) (by omega) (by omega) (by omega) (by omega) (by omega) (fun _ => by show _ = Sum.inl (3, (g_84 0 9).toNat, _); rw [k9, Int.toNat_natCast]) (by decide) (fun g_103 e_103 => ?_)
        rw [show ((cp : Int) + -1 + -1).toNat = cp - 2 by omega] at e_103
        refine o_iload dJ6_getChars_ba4f3_104 rfl ?_
        refine o_if_eq (tgt := 118) dJ6_getChars_ba4f3_106 (by decide) ⟨by omega, by omega⟩ (fun _ => ?_) (fun c => absurd rfl c)
        refine o_iload dJ6_getChars_ba4f3_118 rfl ?_
        refine o_ret1 dJ6_getChars_ba4f3_120 trivial ?_
        have h9 := hp g_103 (s9_wr_2 (L := []) e_84 e_103 (by omega) (by show cp - 2 + 0 = cp - 2; omega) ⟨fun x hx => rfl, fun j => by rw [if_neg (by show ¬ (cp - 2 ≤ j ∧ j < cp - 2 + 0); omega)]⟩)
        rw [show ((cp : Int) + -1 + -1) = ((cp - 2 : Nat) : Int) by omega]
        exact h9
    · have h100 : 100 ≤ w := by omega
      have e8 := t_nf_2 h100 hw2
      have el : (t_nf 8 w).length = (t_nf 8 (w / 100)).length + 2 := by rw [e8, List.length_append, List.length_append]; rfl
      refine o_iload_n dJ6_getChars_ba4f3_28 rfl ?_
      refine o_bipush dJ6_getChars_ba4f3_29 (by decide) ?_
      refine o_idivN hw2 dJ6_getChars_ba4f3_31 ?_
      refine o_istore_n dJ6_getChars_ba4f3_32 (by decide) ?_
      refine o_iload_n dJ6_getChars_ba4f3_33 rfl ?_
      refine o_bipush dJ6_getChars_ba4f3_34 (by decide) ?_
      refine o_imul dJ6_getChars_ba4f3_36 ?_
      refine o_iload_n dJ6_getChars_ba4f3_37 rfl ?_
      refine o_isub dJ6_getChars_ba4f3_38 ?_
      rw [show (-((w / 100 : Nat) : Int) * 100 - -(w : Int)) = ((w % 100 : Nat) : Int) by omega]
      refine o_istore dJ6_getChars_ba4f3_39 (by decide) ?_
      refine o_iload_n dJ6_getChars_ba4f3_41 rfl ?_
      refine o_istore_n dJ6_getChars_ba4f3_42 (by decide) ?_
      refine o_aload_n dJ6_getChars_ba4f3_43 rfl ?_
      refine o_iinc dJ6_getChars_ba4f3_44 rfl (by decide) ?_
      refine o_iload dJ6_getChars_ba4f3_47 rfl ?_
      refine o_gs dJ6_getChars_ba4f3_49 (o_gT (i := 1219) (by decide +kernel) rfl) z_D1 ?_
      refine o_iload dJ6_getChars_ba4f3_52 rfl ?_
      refine o_tbC (z := o_I (48 + ((w % 10 : Nat) : Int))) dJ6_getChars_ba4f3_54 z_D1t (by omega) (by omega) (by decide) (by rw [Int.toNat_natCast, o_nI]; congr 2; omega) ?_
      refine s9_baE (len := c) dJ6_getChars_ba4f3_55 (by rw [s9_m191, hg9, Int.toNat_natCast]) (by decide) (by omega) (by omega) (by omega) (by omega) (by omega) (fun _ => by show _ = Sum.inl (3, (g 0 9).toNat, _); rw [hg9, Int.toNat_natCast]) (by decide) (fun g_55 e_55 => ?_)
      rw [show ((cp : Int) + -1).toNat = cp - 1 by omega] at e_55
      have k9 : g_55 0 9 = c := by rw [e_55, o_e_n (by decide)]; exact hg9
      refine o_aload_n dJ6_getChars_ba4f3_56 rfl ?_
      refine o_iinc dJ6_getChars_ba4f3_57 rfl (by decide) ?_
      refine o_iload dJ6_getChars_ba4f3_60 rfl ?_
      refine o_gs dJ6_getChars_ba4f3_62 (o_gT (i := 1221) (by decide +kernel) rfl) z_D2 ?_
      refine o_iload dJ6_getChars_ba4f3_65 rfl ?_
      refine o_tbC (z := o_I (48 + ((w / 10 % 10 : Nat) : Int))) dJ6_getChars_ba4f3_67 z_D2t (by omega) (by omega) (by decide) (by rw [Int.toNat_natCast, o_nI]; congr 2; omega) ?_
      refine s9_baE (len := c) dJ6_getChars_ba4f3_68 (by rw [s9_m191, k9, Int.toNat_natCast]) (by decide) (by omega) (by omega) (by omega) (by omega) (by omega) (fun _ => by show _ = Sum.inl (3, (g_55 0 9).toNat, _); rw [k9, Int.toNat_natCast]) (by decide) (fun g_68 e_68 => ?_)
      rw [show ((cp : Int) + -1 + -1).toNat = cp - 2 by omega] at e_68
      refine o_goto (tgt := 22) dJ6_getChars_ba4f3_69 (by decide) ?_
      refine o_loc [(0, .int (o_I (-((w / 100 : Nat) : Int)))), (1, .int (o_I (ix : Int))), (2, .ref 1), (5, .int (o_I ((cp - 2 : Nat) : Int))), (6, .int (o_I 0))] (by rw [show ((cp : Int) + -1 + -1) = ((cp - 2 : Nat) : Int) by omega]; rfl) ?_
      refine ih (w / 100) (cp - 2) g_68 (by rw [Nat.pow_succ] at hw; omega) (by omega) (by omega) (by omega) (by rw [e_68, o_e_n (by decide)]; exact k9) (fun g' hg' => ?_)
      have h9 := hp g' (by
        rw [el, show cp - ((t_nf 8 (w / 100)).length + 2) = cp - 2 - (t_nf 8 (w / 100)).length by omega, e8]
        exact s9_wr_2 e_55 e_68 (by omega) (by omega) hg')
      rw [el, show cp - ((t_nf 8 (w / 100)).length + 2) = cp - 2 - (t_nf 8 (w / 100)).length by omega] at h9
      exact h9
set_option maxRecDepth 100000 in
set_option maxHeartbeats 4000000 in
/-- getChars(v, ix, bytes) -/
theorem cs_J6_getChars_ba4f3 {l : Launch} (hl : l.stackTraces = false) (d : Nat) (g : Nat → Nat → Int) (v ix c : Nat) (hc : c ≤ 220) (hv : v < 10000000) (hlv : (t_nf 8 v).length ≤ ix) (hix : ix ≤ c) (hg9 : g 0 9 = c) : o_Ct l yJ6_getChars_ba4f3 wJ6_getChars_ba4f3 (d + 1) o_no [.int (o_I (v : Int)), .int (o_I (ix : Int)), .ref 1] s9_N (s9_mem g) 0 0 (s9_mt (some (.int (o_I ((ix - (t_nf 8 v).length : Nat) : Int)))) (fun g' => s9_wr g (ix - (t_nf 8 v).length) (t_nf 8 v) g')) := by
  refine o_Ct.ofV hl mJ6_getChars_ba4f3 (by decide +kernel) rfl rfl rfl (Nat.le_of_ble_eq_true rfl) ?_
  refine o_iload_n dJ6_getChars_ba4f3_0 rfl ?_
  refine o_istore dJ6_getChars_ba4f3_1 (by decide) ?_
  refine o_iload_n dJ6_getChars_ba4f3_3 rfl ?_
  refine o_if_ge (tgt := 11) dJ6_getChars_ba4f3_4 (by decide) ⟨by omega, by omega⟩ (fun _ => ?_) (fun c => absurd (by omega) c)
  refine o_iconst dJ6_getChars_ba4f3_11 ?_
  refine o_istore dJ6_getChars_ba4f3_12 (by decide) ?_
  refine o_iload dJ6_getChars_ba4f3_14 rfl ?_
  refine o_if_ne (tgt := 22) dJ6_getChars_ba4f3_16 (by decide) ⟨by omega, by omega⟩ (fun c => absurd rfl c) (fun _ => ?_)
  refine o_iload_n dJ6_getChars_ba4f3_19 rfl ?_
  refine o_ineg dJ6_getChars_ba4f3_20 ?_
  refine o_istore_n dJ6_getChars_ba4f3_21 (by decide) ?_
  exact o_loc [(0, .int (o_I (-(v : Int)))), (1, .int (o_I (ix : Int))), (2, .ref 1), (5, .int (o_I (ix : Int))), (6, .int (o_I 0))] rfl (s9_gc_loop ix c hc 3 v ix g (by rw [show (100 : Nat) ^ (3 + 1) = 100000000 by decide]; omega) (by omega) hlv hix hg9 (fun g' hg' => ⟨rfl, rfl, g', rfl, hg'⟩))
theorem s9_sb_num {g g1 g2 : Nat → Nat → Int} {L A : List Int} (h : s9_sb g L) {c9 : Nat} (h9 : g 0 9 = c9) (hl : L.length + A.length ≤ c9) (hA : ∀ c ∈ A, 0 ≤ c ∧ c < 128) (h1 : s9_wr g L.length A g1) (e2 : g2 = o_e g1 0 3 ((L.length + A.length : Nat) : Int)) : s9_sb g2 (L ++ A) ∧ o_fr s9_cB g g2 := by
  obtain ⟨a1, ⟨c1, a2, a3, a4, a5⟩, a6, a7⟩ := h
  have e : c1 = c9 := by omega
  subst e
  have k : ∀ j, j ≠ 3 → g2 0 j = g 0 j := fun j hj => by rw [e2, o_e_k hj, h1.1 0 (by decide)]
  have hlen : (L ++ A).length = L.length + A.length := List.length_append
  refine ⟨⟨by rw [k 1 (by decide)]; exact a1, ⟨c1, by rw [k 9 (by decide)]; exact a2, a3, by rw [hlen]; exact hl, fun j hj => ?_⟩, by rw [e2, o_e_s, hlen], fun j hj => ?_⟩, fun a ha => ?_⟩
  · rw [e2, o_e_n (by decide), h1.2 j]
    split
    · rename_i q
      exact hA _ (o_getD_mem (by omega))
    · exact a5 j hj
  · rw [hlen] at hj
    rw [e2, o_e_n (by decide), h1.2 j, o_getD_ap]
    by_cases q : L.length ≤ j
    · rw [if_pos ⟨q, hj⟩, if_pos q]
    · rw [if_neg (fun z => q z.1), if_neg q, a7 j (by omega)]
  · rw [e2, o_e_n (fun z => ha (Or.inl z)), h1.1 a (fun z => ha (Or.inr z))]
set_option maxRecDepth 100000 in
set_option maxHeartbeats 4000000 in
/-- append(v) -/
theorem cs_J5_append_c97b9 {l : Launch} (hl : l.stackTraces = false) (d : Nat) (g : Nat → Nat → Int) (L : List Int) (hsb : s9_sb g L) (v : Nat) (hv : v < 10000000) (hL : L.length ≤ 102) : o_Ct l yJ5_append_c97b9 wJ5_append_c97b9 (d + 4) s9_a1 [.ref 0, .int (o_I (v : Int))] s9_N (s9_mem g) 1 220 (s9_mt (some (.ref 0)) (fun g' => s9_sb g' (L ++ t_nf 8 v) ∧ o_fr s9_cB g g')) := by
  refine o_Ct.ofV hl mJ5_append_c97b9 (by decide +kernel) rfl rfl rfl (Nat.le_of_ble_eq_true rfl) ?_
  have h190 := hsb.2.2.1
  have h7 := t_nf_len 8 v 7 (by rw [t_p7]; exact hv) (by decide)
  refine o_aload_n dJ5_append_c97b9_0 rfl ?_
  refine o_gf dJ5_append_c97b9_1 fl_J5_79 rfl (by decide) rfl ?_
  rw [h190]
  refine o_istore_n dJ5_append_c97b9_4 (by decide) ?_
  refine o_iload_n dJ5_append_c97b9_5 rfl ?_
  refine o_iload_n dJ5_append_c97b9_6 rfl ?_
  refine o_cS _ (ct_J6_stringSize_0f7a4 hl (d + 2) s9_N (s9_mem g) v hv) dJ5_append_c97b9_7 ml_J5_245 ys_J6_stringSize_0f7a4 rfl (by decide) (by omega) rfl (Nat.le_of_ble_eq_true rfl) ?_
  skip
  refine o_iadd dJ5_append_c97b9_10 ?_
  rw [show ((L.length : Int) + ((t_nf 8 v).length : Int)) = ((L.length + (t_nf 8 v).length : Nat) : Int) by omega]
  refine o_istore_n dJ5_append_c97b9_11 (by decide) ?_
  refine o_aload_n dJ5_append_c97b9_12 rfl ?_
  refine o_iload_n dJ5_append_c97b9_13 rfl ?_
  refine s9_cVa RJ4 [.int (o_I (((L.length + (t_nf 8 v).length : Nat) : Int)))] (cs_J5_ensureCapacityInternal_d00df hl d g L hsb (((L.length + (t_nf 8 v).length : Nat) : Int)) ⟨by omega, by omega⟩) dJ5_append_c97b9_14 ml_J5_100 yW_ens rfl (by decide) (by omega) (by omega) (by omega) (o_recW (by decide) rfl rfl) rfl (Nat.le_of_ble_eq_true rfl) rfl rfl (fun g_14 q_14 => ?_)
  obtain ⟨hsb1, f1, c1, hc1, hq1⟩ := q_14
  refine o_aload_n dJ5_append_c97b9_17 rfl ?_
  refine o_cG RJ4 _ (cs_J5_isLatin1_aae02 hl d g_14 hsb1.1) dJ5_append_c97b9_18 ml_J5_83 yW_isL rfl (by decide) (by omega) (o_recW (by decide) rfl rfl) rfl (Nat.le_of_ble_eq_true rfl) ?_
  refine o_if_eq (tgt := 37) dJ5_append_c97b9_21 (by decide) ⟨by omega, by omega⟩ (fun c => absurd c (by decide)) (fun _ => ?_)
  refine o_iload_n dJ5_append_c97b9_24 rfl ?_
  refine o_iload_n dJ5_append_c97b9_25 rfl ?_
  refine o_aload_n dJ5_append_c97b9_26 rfl ?_
  refine o_gf dJ5_append_c97b9_27 fl_J5_15 rfl (by decide) rfl ?_
  refine s9_cSm _ (cs_J6_getChars_ba4f3 hl d g_14 v (L.length + (t_nf 8 v).length) c1 (by obtain ⟨a1, ⟨c2, a2, a3, a4, a5⟩, a6, a7⟩ := id hsb1; omega) hv (by omega) (by omega) hc1) dJ5_append_c97b9_30 ml_J5_248 ys_J6_getChars_ba4f3 rfl (by decide) (by omega) rfl (Nat.le_of_ble_eq_true rfl) (fun g_30 q_30 => ?_)
  refine o_pop dJ5_append_c97b9_33 rfl ?_
  refine o_goto (tgt := 48) dJ5_append_c97b9_34 (by decide) ?_
  refine o_aload_n dJ5_append_c97b9_48 rfl ?_
  refine o_iload_n dJ5_append_c97b9_49 rfl ?_
  refine s9_pmE dJ5_append_c97b9_50 fp_J5_79 rfl (by decide) (Nat.le_of_ble_eq_true rfl) rfl rfl (fun _ => rfl) (by decide) (fun g_50 e_50 => ?_)
  refine o_aload_n dJ5_append_c97b9_53 rfl ?_
  refine o_ret1 dJ5_append_c97b9_54 (Or.inr ⟨_, rfl⟩) ?_
  rw [show L.length + (t_nf 8 v).length - (t_nf 8 v).length = L.length by omega] at q_30
  have q := s9_sb_num hsb1 hc1 (by omega) (t_nf_ch 8 v) q_30 e_50
  exact ⟨rfl, rfl, g_50, rfl, q.1, o_fr_t f1 q.2⟩
set_option maxRecDepth 100000 in
set_option maxHeartbeats 4000000 in
/-- append(v) -/
theorem cs_J4_append_bf812 {l : Launch} (hl : l.stackTraces = false) (d : Nat) (g : Nat → Nat → Int) (L : List Int) (hsb : s9_sb g L) (v : Nat) (hv : v < 10000000) (hL : L.length ≤ 102) : o_Ct l yJ4_append_bf812 wJ4_append_bf812 (d + 5) s9_a1 [.ref 0, .int (o_I (v : Int))] s9_N (s9_mem g) 1 220 (s9_mt (some (.ref 0)) (fun g' => s9_sb g' (L ++ t_nf 8 v) ∧ o_fr s9_cB g g')) := by
  refine o_Ct.ofV hl mJ4_append_bf812 (by decide +kernel) rfl rfl rfl (Nat.le_of_ble_eq_true rfl) ?_
  refine o_aload_n dJ4_append_bf812_0 rfl ?_
  refine o_iload_n dJ4_append_bf812_1 rfl ?_
  refine s9_cSUa [.int (o_I (v : Int))] (cs_J5_append_c97b9 hl d g L hsb v hv hL) dJ4_append_bf812_2 (List.forall_mem_cons.mpr ⟨(o_gT (i := 1210) (by decide +kernel) rfl), List.forall_mem_cons.mpr ⟨(o_gT (i := 1565) (by decide +kernel) rfl), List.forall_mem_cons.mpr ⟨(o_gT (i := 305) (by decide +kernel) rfl), List.forall_mem_cons.mpr ⟨(o_gT (i := 1211) (by decide +kernel) rfl), List.forall_mem_cons.mpr ⟨(o_gT (i := 13) (by decide +kernel) rfl), fun _ h => absurd h List.not_mem_nil⟩⟩⟩⟩⟩) (o_gT (i := 1212) (by decide +kernel) rfl) ⟨by decide, (show Option.map (fun d => d.parameters.length) (parseMethodDescriptor yJ5_append_c97b9.desc) = some 1 by decide)⟩ (by decide) (by omega) (Nat.le_refl _) (Nat.le_refl _) (by decide) rfl rfl rfl (Nat.le_of_ble_eq_true rfl) rfl rfl (fun g_2 q_2 => ?_)
  refine o_pop dJ4_append_bf812_5 rfl ?_
  refine o_aload_n dJ4_append_bf812_6 rfl ?_
  refine o_ret1 dJ4_append_bf812_7 (Or.inr ⟨_, rfl⟩) ?_
  exact ⟨rfl, rfl, _, rfl, q_2⟩

/-! .. beside other cells: the builder at b, its bytes at b + 1 -/
def sbC0 (b : Nat) (g : Nat → Nat → Int) : o_C := .inr (11, [.ref (b + 1), .int (o_I (g 0 1)), .int (o_I (g 0 2)), .int (o_I (g 0 3))])
def sbC1 (g : Nat → Nat → Int) : o_C := .inl (3, (g 0 9).toNat, .inl (fun j => o_I (g 1 j)))
def sbH (G : Nat → o_C) (b : Nat) (g : Nat → Nat → Int) : Nat → o_C := fun k => if k = b then sbC0 b g else if k = b + 1 then sbC1 g else G k
theorem sbH_0 {G : Nat → o_C} {b : Nat} {g : Nat → Nat → Int} : sbH G b g b = sbC0 b g := if_pos rfl
theorem sbH_1 {G : Nat → o_C} {b : Nat} {g : Nat → Nat → Int} : sbH G b g (b + 1) = sbC1 g := by unfold sbH; rw [if_neg (by omega), if_pos rfl]
theorem sbH_n {G : Nat → o_C} {b k : Nat} {g : Nat → Nat → Int} (h0 : k ≠ b) (h1 : k ≠ b + 1) : sbH G b g k = G k := by unfold sbH; rw [if_neg h0, if_neg h1]
def sbA (ad : Nat → Nat) (b : Nat) : Nat → Nat := fun k => if k = 0 then ad b else if k = 1 then ad (b + 1) else ad k
def rnB (b : Nat) : Value → Value
  | .ref _ => .ref b
  | v => v
/-- the cells of G don't speak of the cell c -/
def nrG (c N : Nat) (h : Nat → o_C) (P : Nat → Prop) : Prop := ∀ k, k < N → P k → ∀ (ad1 ad2 : Nat → Nat) (cy : Nat → ClassId), (∀ r, r ≠ c → ad1 r = ad2 r) → o_rC ad1 cy (h k) = o_rC ad2 cy (h k)
theorem o_Ct.em {l : Launch} {y : MethodName} {cw : Cond} {d mc ms N b : Nat} {As : List Value} {G : Nat → o_C} {g : Nat → Nat → Int} {v : Option Value} {Q : (Nat → Nat → Int) → Prop} (hC : o_Ct l y cw d s9_a1 (.ref 0 :: As) 2 (s9_mem g) mc ms (s9_mt v Q))
    (hv : v = none ∨ v = some (.ref 0) ∨ ∃ x, v = some (.int x)) (hAs : ∀ v ∈ As, ∀ k, v = .ref k → 1000000 ≤ k) (hb : b + 1 < N) (hN : N ≤ 1000000) (hGr : nrG (b + 1) N G (fun k => k ≠ b ∧ k ≠ b + 1)) :
    o_Ct l y cw d (fun k => k = b + 1) (.ref b :: As) N (sbH G b g) mc ms (fun o n' h' => n' = N ∧ ∃ g', Q g' ∧ h' = sbH G b g' ∧ o = .inl (v.map (rnB b))) := by
  intro Z ad p e h1 h2 h3 s m args below h4 h5 h6 h7
  obtain ⟨u1, E, R⟩ := h6
  obtain ⟨X, hXd⟩ : ∃ X : Nat → Prop, X = fun q => ∃ k, k < N ∧ k ≠ b ∧ k ≠ b + 1 ∧ q = ad k := ⟨_, rfl⟩
  have hXi : ∀ q, X q ↔ ∃ k, k < N ∧ k ≠ b ∧ k ≠ b + 1 ∧ q = ad k := fun q => by rw [hXd]
  have hX : ∀ q : Nat, X q → q < s.heap.size := by
    intro q hq
    obtain ⟨k, hk2, -, -, rfl⟩ := (hXi q).mp hq
    obtain ⟨c, hc⟩ := at_cell (R.1 k _ (rW_iff.mpr ⟨hk2, rfl⟩))
    have hc : s.heap[ad k]? = some c := hc
    rcases Nat.lt_or_ge (ad k) s.heap.size with w | w
    · exact w
    · rw [Array.getElem?_eq_none w] at hc
      cases hc
  have Rb : ∀ k, k < N → va_at Z.2.1 o_cl (ad k, o_rC ad Z.2.2.1 (sbH G b g k)) s.heap := fun k hk => R.1 k _ (rW_iff.mpr ⟨hk, rfl⟩)
  have Ra : ∀ i j, i < N → j < N → ad i = ad j → i = j := fun i j hi hj e9 => R.2.1 i j _ _ (rW_iff.mpr ⟨hi, rfl⟩) (rW_iff.mpr ⟨hj, rfl⟩) e9
  have RA : ∀ k, k < N → o_A Z (ad k) := fun k hk => R.2.2 k _ (rW_iff.mpr ⟨hk, rfl⟩)
  have a0 : sbA ad b 0 = ad b := rfl
  have a1 : sbA ad b 1 = ad (b + 1) := rfl
  have a9 : ∀ k, 1000000 ≤ k → sbA ad b k = ad k := fun k hk => by unfold sbA; rw [if_neg (by omega), if_neg (by omega)]
  have R' : o_Rp (f_Z Z X) (sbA ad b) 2 (s9_mem g) s.heap := by
    refine ⟨fun k q hk => ?_, fun i j p9 q hi hj e9 => ?_, fun k q hk => ?_⟩
    · obtain ⟨hk1, rfl⟩ := rW_iff.mp hk
      rcases (show k = 0 ∨ k = 1 by omega) with z | z
      · subst z
        have t := Rb b (by omega)
        rw [sbH_0] at t
        exact t
      · subst z
        have t := Rb (b + 1) hb
        rw [sbH_1] at t
        exact t
    · obtain ⟨hi1, rfl⟩ := rW_iff.mp hi
      obtain ⟨hj1, rfl⟩ := rW_iff.mp hj
      simp only at e9
      rcases (show i = 0 ∨ i = 1 by omega) with z | z <;> rcases (show j = 0 ∨ j = 1 by omega) with w | w <;> subst z <;> subst w
      · rfl
      · have := Ra b (b + 1) (by omega) hb e9; omega
      · have := Ra (b + 1) b hb (by omega) e9; omega
      · rfl
    · obtain ⟨hk1, rfl⟩ := rW_iff.mp hk
      rcases (show k = 0 ∨ k = 1 by omega) with z | z
      · subst z
        refine f_A.mpr ⟨RA b (by omega), fun x => ?_⟩
        obtain ⟨k9, h8, h9, h10, h11⟩ := (hXi _).mp x
        exact h9 (Ra b k9 (by omega) h8 h11).symm
      · subst z
        refine f_A.mpr ⟨RA (b + 1) hb, fun x => ?_⟩
        obtain ⟨k9, h8, h9, h10, h11⟩ := (hXi _).mp x
        exact h10 (Ra (b + 1) k9 hb h8 h11).symm
  have u2 : args = ((Value.ref 0 :: As).map (o_rV (sbA ad b))).toArray := by
    rw [u1]
    congr 1
    show Value.ref (ad b) :: As.map (o_rV ad) = Value.ref (ad b) :: As.map (o_rV (sbA ad b))
    congr 1
    exact List.map_congr_left fun v hv9 => by
      cases v with
      | ref k => exact congrArg Value.ref (a9 k (hAs _ hv9 k rfl)).symm
      | _ => rfl
  obtain ⟨k, o, q1, q2, q3, q4⟩ := hC (f_Z Z X) (sbA ad b) p e h1 h2 h3 s m args below h4 h5 ⟨u2, (f_Ex E hX).ad (fun k hk => a9 k hk), R'⟩ h7
  refine ⟨k, o, q1, q2, q3, ?_⟩
  rcases q4 with ⟨⟨⟨v9, n', h', ad', b1, b2, b3, b4⟩, b5⟩, L, b6, b7⟩ | ⟨q, b1, E9, ce, L, ⟨⟨n', h', ad', b2, b3, b4⟩, b5⟩, c1, c2, c3, c4, c5, c6⟩
  · obtain ⟨w1, rfl, g', rfl, hQ⟩ := b2
    cases w1
    have d0 : ad' 0 = ad b := b3 0 (fun z => by rcases z with z | z <;> omega)
    have B0 : va_at Z.2.1 o_cl (ad' 0, o_rC ad' Z.2.2.1 (s9_mem g' 0)) _ := b4.1 0 _ (rW_iff.mpr ⟨by decide, rfl⟩)
    have B1 : va_at Z.2.1 o_cl (ad' 1, o_rC ad' Z.2.2.1 (s9_mem g' 1)) _ := b4.1 1 _ (rW_iff.mpr ⟨by decide, rfl⟩)
    have D01 : ad' 0 ≠ ad' 1 := fun z => by have := b4.2.1 0 1 _ _ (rW_iff.mpr ⟨by decide, rfl⟩) (rW_iff.mpr ⟨by decide, rfl⟩) z; omega
    have A1 : o_A (f_Z Z X) (ad' 1) := b4.2.2 1 _ (rW_iff.mpr ⟨by decide, rfl⟩)
    obtain ⟨ad2, had⟩ : ∃ ad2 : Nat → Nat, ad2 = fun k => if k = b + 1 then ad' 1 else ad k := ⟨_, rfl⟩
    have e1 : ad2 (b + 1) = ad' 1 := by rw [had]; exact if_pos rfl
    have e2 : ∀ k, k ≠ b + 1 → ad2 k = ad k := fun k hk => by rw [had]; exact if_neg hk
    have X1 : ∀ k, k < N → k ≠ b → k ≠ b + 1 → ad k ≠ ad' 1 := fun k k1 k2 k3 z => (f_A.mp A1).2 ((hXi _).mpr ⟨k, k1, k2, k3, z.symm⟩)
    refine Or.inl ⟨⟨⟨v.map (rnB b), N, sbH G b g', ad2, ?_, ⟨rfl, g', hQ, rfl, rfl⟩, fun k hk => e2 k hk, ?_⟩, ⟨b5.1, fun q h8 h9 => b5.2 q h8 (fun w => h9 (f_A.mp w).1)⟩⟩, L, b6, fun q hq => (f_A.mp (b7 q hq)).1⟩
    · rw [b1]
      congr 1
      rcases hv with rfl | rfl | ⟨x, rfl⟩
      · rfl
      · show some (Value.ref (ad' 0)) = some (Value.ref (ad2 b))
        rw [d0, e2 b (by omega)]
      · rfl
    · refine ⟨fun k q hk => ?_, fun i j p9 q hi hj e9 => ?_, fun k q hk => ?_⟩
      · obtain ⟨hk1, rfl⟩ := rW_iff.mp hk
        by_cases z0 : k = b
        · subst z0
          rw [sbH_0, e2 k (by omega), ← d0]
          show va_at _ _ (ad' 0, Sum.inr (11, [Value.ref (ad2 (k + 1)), .int (o_I (g' 0 1)), .int (o_I (g' 0 2)), .int (o_I (g' 0 3))])) _
          rw [e1]
          exact B0
        · by_cases z1 : k = b + 1
          · subst z1
            rw [sbH_1, e1]
            exact B1
          · have t := Rb k hk1
            rw [sbH_n z0 z1] at t ⊢
            rw [hGr k hk1 ⟨z0, z1⟩ ad2 ad Z.2.2.1 e2, e2 k z1]
            exact t.kept (b5.2 _ (hX _ ((hXi _).mpr ⟨k, hk1, z0, z1, rfl⟩)) (fun w => (f_A.mp w).2 ((hXi _).mpr ⟨k, hk1, z0, z1, rfl⟩)))
      · obtain ⟨hi1, rfl⟩ := rW_iff.mp hi
        obtain ⟨hj1, rfl⟩ := rW_iff.mp hj
        simp only at e9
        by_cases zi : i = b + 1 <;> by_cases zj : j = b + 1
        · omega
        · rw [zi, e1, e2 j zj] at e9
          by_cases zb : j = b
          · rw [zb, ← d0] at e9; exact absurd e9.symm D01
          · exact absurd e9.symm (X1 j hj1 zb zj)
        · rw [zj, e1, e2 i zi] at e9
          by_cases zb : i = b
          · rw [zb, ← d0] at e9; exact absurd e9 D01
          · exact absurd e9 (X1 i hi1 zb zi)
        · rw [e2 i zi, e2 j zj] at e9
          exact Ra i j hi1 hj1 e9
      · obtain ⟨hk1, rfl⟩ := rW_iff.mp hk
        show o_A Z (ad2 k)
        by_cases z1 : k = b + 1
        · rw [z1, e1]; exact (f_A.mp A1).1
        · rw [e2 k z1]; exact RA k hk1
  · obtain ⟨w1, -⟩ := b2
    cases w1
