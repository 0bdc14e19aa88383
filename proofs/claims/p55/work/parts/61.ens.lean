/-! the builder's methods -/
def o_lrB (ls : List (Nat × Value)) : Bool := ls.all (fun q => match q.2 with | .ref k => k != 191 && k != 192 | _ => true)
def o_lrS (st : List Value) : Bool := st.all (fun v => match v with | .ref k => k != 191 && k != 192 | _ => true)
theorem o_lrB_ok {ls : List (Nat × Value)} (h : o_lrB ls = true) : ∀ q ∈ ls, ∀ k : Nat, q.2 = .ref k → ¬ o_a1 k := by
  intro q hq k hk ha
  have h1 := List.all_eq_true.mp h q hq
  rw [hk] at h1
  rcases ha with rfl | rfl <;> exact absurd h1 (by decide)
theorem o_lrS_ok {st : List Value} (h : o_lrS st = true) : ∀ v ∈ st, ∀ k : Nat, v = .ref k → ¬ o_a1 k := by
  intro v hv k hk ha
  have h1 := List.all_eq_true.mp h v hv
  rw [hk] at h1
  rcases ha with rfl | rfl <;> exact absurd h1 (by decide)
theorem o_a1_lt : ∀ k, o_a1 k → k < 1000000 := fun k h => by rcases h with rfl | rfl <;> decide
section OS
variable {l : Launch} {M : o_M} {d : Nat} {post : o_P} {pc : Nat} {ls : List (Nat × Value)} {st : List Value} {n : Nat} {h : Nat → o_C} {mc ms : Nat}
/-- a call behind which the builder's array may have moved -/
theorem o_cVa {y : MethodName} {yb : ByteArray} {yL dy index b mcy msy : Nat} {yr : Option FieldType} (C : String) (As : List Value) {rest : List Value} {v : Option Value} {Q : (Nat → Nat → Int) → Prop}
    (hC : o_Ct l y (.code y yb yL yr) dy o_a1 (.ref b :: As) n h mcy msy (o_mt v Q)) (hd : decode M.2.1 pc = .ok (.invokevirtual index, 3)) (hw : Cond.methodLink M.1 index y ∈ o_gW) (hyw : o_yW C y (.code y yb yL yr)) (hyd : o_yd y As.length = true) (hyL : yL ≤ 21)
    (hdy : dy < d) (hm : mcy ≤ mc) (hs : msy ≤ ms) (hrec : o_rec C b n h) (hst : st = As.reverse ++ .ref b :: rest) (hcat : (rest.map fun v => v.category).sum ≤ 8) (h1 : o_lrB ls = true) (h2 : o_lrS rest = true)
    (k : ∀ g', Q g' → o_V l M d o_a1 post (pc + 3) ls (v.toList ++ rest) o_N (o_mem g') (mc - mcy) (ms - msy)) : o_V l M d o_a1 post pc ls st n h mc ms :=
  o_callG C As hC hd hw hyw hyd hyL hdy hm hs hrec hst hcat (fun _ z => z) o_a1_lt (Or.inr ⟨o_lrB_ok h1, o_lrS_ok h2⟩) (fun v' n' h9 q => by obtain ⟨q1, rfl, g', rfl, q2⟩ := q; cases q1; exact k g' q2) (fun E n' h9 q => by cases q.1)
theorem o_cSUa {y : MethodName} {yb : ByteArray} {yL dy index b ci N mcy msy : Nat} {yr : Option FieldType} {C : String} {T : u_T} {fs : List Value} (As : List Value) {rest : List Value} {v : Option Value} {Q : (Nat → Nat → Int) → Prop}
    (hC : o_Ct l y (.code y yb yL yr) dy o_a1 (.ref b :: As) n h mcy msy (o_mt v Q)) (hd : decode M.2.1 pc = .ok (.invokespecial index, 3)) (hw : ∀ w ∈ va_wsSU M.1 index y [], w ∈ o_gW) (hco : Cond.code y yb yL yr ∈ o_gW) (hyd : y.name ≠ "<init>" ∧ (parseMethodDescriptor y.desc).map (fun d => d.parameters.length) = some As.length) (hyL : yL ≤ 21)
    (hdy : dy < d) (hm : mcy ≤ mc) (hs : msy ≤ ms) (hb : b < n) (hh : h b = .inr (ci, fs)) (hc : o_cl[ci]? = some (C, T, N)) (hst : st = As.reverse ++ .ref b :: rest) (hcat : (rest.map fun v => v.category).sum ≤ 8) (h1 : o_lrB ls = true) (h2 : o_lrS rest = true)
    (k : ∀ g', Q g' → o_V l M d o_a1 post (pc + 3) ls (v.toList ++ rest) o_N (o_mem g') (mc - mcy) (ms - msy)) : o_V l M d o_a1 post pc ls st n h mc ms :=
  o_callSU As hC hd hw hco hyd hyL hdy hm hs hb hh hc hst hcat (fun _ z => z) o_a1_lt (Or.inr ⟨o_lrB_ok h1, o_lrS_ok h2⟩) (fun v' n' h9 q => by obtain ⟨q1, rfl, g', rfl, q2⟩ := q; cases q1; exact k g' q2) (fun E n' h9 q => by cases q.1)
theorem o_cSU {al : Nat → Prop} {y : MethodName} {yb : ByteArray} {yL dy index b ci N : Nat} {yr : Option FieldType} {C : String} {T : u_T} {fs : List Value} (As : List Value) {rest : List Value} {v : Option Value} {h' : Nat → o_C}
    (hC : o_Ct l y (.code y yb yL yr) dy o_no (.ref b :: As) n h 0 0 (o_is v n h')) (hd : decode M.2.1 pc = .ok (.invokespecial index, 3)) (hw : ∀ w ∈ va_wsSU M.1 index y [], w ∈ o_gW) (hco : Cond.code y yb yL yr ∈ o_gW) (hyd : y.name ≠ "<init>" ∧ (parseMethodDescriptor y.desc).map (fun d => d.parameters.length) = some As.length) (hyL : yL ≤ 21)
    (hdy : dy < d) (hb : b < n) (hh : h b = .inr (ci, fs)) (hc : o_cl[ci]? = some (C, T, N)) (hst : st = As.reverse ++ .ref b :: rest) (hcat : (rest.map fun v => v.category).sum ≤ 8)
    (k : o_V l M d al post (pc + 3) ls (v.toList ++ rest) n h' mc ms) : o_V l M d al post pc ls st n h mc ms :=
  o_callSU As hC hd hw hco hyd hyL hdy (Nat.zero_le _) (Nat.zero_le _) hb hh hc hst hcat (fun _ z => z.elim) (fun _ z => z.elim) (Or.inl fun _ z => z) (fun v' n' h9 q => by obtain ⟨q1, rfl, rfl⟩ := q; cases q1; exact k) (fun E n' h9 q => by cases q.1)
end OS
theorem yW_isL : o_yW RJ4 yJ5_isLatin1_aae02 wJ5_isLatin1_aae02 := ⟨(o_gT (i := 1132) (by decide +kernel) rfl), (o_gT (i := 1134) (by decide +kernel) rfl), (o_gT (i := 13) (by decide +kernel) rfl), (o_gT (i := 1135) (by decide +kernel) rfl)⟩
theorem yW_ens : o_yW RJ4 yJ5_ensureCapacityInternal_d00df wJ5_ensureCapacityInternal_d00df := ⟨(o_gT (i := 1102) (by decide +kernel) rfl), o_gM List.mem_cons_self rfl, (o_gT (i := 13) (by decide +kernel) rfl), (o_gT (i := 1103) (by decide +kernel) rfl)⟩
theorem yW_ncp : o_yW RJ4 yJ5_newCapacity_0f7a4 wJ5_newCapacity_0f7a4 := ⟨(o_gT (i := 1106) (by decide +kernel) rfl), o_gM (List.mem_cons_of_mem _ List.mem_cons_self) rfl, (o_gT (i := 13) (by decide +kernel) rfl), (o_gT (i := 1107) (by decide +kernel) rfl)⟩
set_option maxRecDepth 100000 in
set_option maxHeartbeats 4000000 in
/-- isLatin1 -/
theorem ct_J5_isLatin1_aae02 {l : Launch} (hl : l.stackTraces = false) (d : Nat) (g : Nat → Nat → Int) (h1 : g 190 1 = 0) : o_Ct l yJ5_isLatin1_aae02 wJ5_isLatin1_aae02 (d + 1) o_no [.ref 190] o_N (o_mem g) 0 0 (o_is (some (.int (o_I 1))) o_N (o_mem g)) := by
  refine o_Ct.ofV hl mJ5_isLatin1_aae02 (by decide +kernel) rfl rfl rfl (Nat.le_of_ble_eq_true rfl) ?_
  refine o_gs dJ5_isLatin1_aae02_0 (o_gT (i := 283) (by decide +kernel) rfl) z_C ?_
  refine o_if_eq (tgt := 17) dJ5_isLatin1_aae02_3 (by decide) ⟨by omega, by omega⟩ (fun c_3 => ?_) (fun c_3 => ?_)
  · skip
    exfalso
    omega
  · skip
    refine o_aload_n dJ5_isLatin1_aae02_6 rfl ?_
    refine o_gf dJ5_isLatin1_aae02_7 fl_J5_22 rfl (by decide) rfl ?_
    rw [h1]
    refine o_if_ne (tgt := 17) dJ5_isLatin1_aae02_10 (by decide) ⟨by omega, by omega⟩ (fun c_10 => ?_) (fun c_10 => ?_)
    · skip
      exfalso
      omega
    · skip
      refine o_iconst dJ5_isLatin1_aae02_13 ?_
      refine o_goto (tgt := 18) dJ5_isLatin1_aae02_14 (by decide) ?_
      refine o_ret1 dJ5_isLatin1_aae02_18 (by first | exact o_rb0 | exact o_rb1 | exact o_bn _) ?_
      exact ⟨rfl, rfl, rfl⟩
set_option maxRecDepth 100000 in
set_option maxHeartbeats 4000000 in
/-- canEncode(c) -/
theorem ct_J1_canEncode_fc78d {l : Launch} (hl : l.stackTraces = false) (d : Nat) (n : Nat) (h : Nat → o_C) (c : Int) (hc : 0 ≤ c ∧ c < 128) : o_Ct l yJ1_canEncode_fc78d wJ1_canEncode_fc78d (d + 1) o_no [.int (o_I c)] n (h) 0 0 (o_is (some (.int (o_I 1))) n h) := by
  refine o_Ct.ofV hl mJ1_canEncode_fc78d (by decide +kernel) rfl rfl rfl (Nat.le_of_ble_eq_true rfl) ?_
  refine o_iload_n dJ1_canEncode_fc78d_0 rfl ?_
  refine o_sipush dJ1_canEncode_fc78d_1 (by decide) ?_
  refine o_icmp_gt (tgt := 11) dJ1_canEncode_fc78d_4 (by decide) ⟨by omega, by omega⟩ ⟨by omega, by omega⟩ (fun c_4 => ?_) (fun c_4 => ?_)
  · skip
    exfalso
    omega
  · skip
    refine o_iconst dJ1_canEncode_fc78d_7 ?_
    refine o_goto (tgt := 12) dJ1_canEncode_fc78d_8 (by decide) ?_
    refine o_ret1 dJ1_canEncode_fc78d_12 (by first | exact o_rb0 | exact o_rb1 | exact o_bn _) ?_
    exact ⟨rfl, rfl, rfl⟩
def o_gB (g : Nat → Nat → Int) (c q : Nat) : Nat → Nat → Int := fun a j => if a = 190 ∧ j = 9 then (q : Int) else if a = 191 then va_cpy (fun j => g 191 j) (fun _ => (0 : Int)) 0 0 c j else g a j
theorem o_gB_n {g : Nat → Nat → Int} {c q a : Nat} (h0 : a ≠ 190) (h1 : a ≠ 191) : o_gB g c q a = g a := by funext j; simp [o_gB, h0, h1]
theorem o_gB_k {g : Nat → Nat → Int} {c q j : Nat} (h : j ≠ 9) : o_gB g c q 190 j = g 190 j := by simp [o_gB, h]
theorem o_gB_9 {g : Nat → Nat → Int} {c q : Nat} : o_gB g c q 190 9 = q := by simp [o_gB]
theorem o_gB_c {g : Nat → Nat → Int} {c q j : Nat} : o_gB g c q 191 j = if j < c then g 191 j else 0 := by simp [o_gB, va_cpy]
theorem o_gB_sb {g : Nat → Nat → Int} {L : List Int} {c q : Nat} (h : o_sb g L) (hc : g 190 9 = c) (hq : c ≤ q) (hq2 : q ≤ 220) : o_sb (o_gB g c q) L := by
  obtain ⟨h1, ⟨c1, h2, h3, h4, h5⟩, h6, h7⟩ := h
  have e : c1 = c := by omega
  subst e
  refine ⟨by rw [o_gB_k (by decide)]; exact h1, ⟨q, o_gB_9, hq2, by omega, fun j hj => ?_⟩, by rw [o_gB_k (by decide)]; exact h6, fun j hj => ?_⟩
  · rw [o_gB_c]
    split
    · exact h5 j (by assumption)
    · omega
  · rw [o_gB_c, if_pos (by omega)]; exact h7 j hj
theorem o_gB_fr {g : Nat → Nat → Int} {c q : Nat} : o_fr o_cB g (o_gB g c q) := fun a ha => o_gB_n (fun z => ha (Or.inl z)) (fun z => ha (Or.inr z))
theorem o_swB {g : Nat → Nat → Int} {c q : Nat} {A : o_C} (ad ad' : Nat → Nat) (e : ∀ k, k ≠ 191 → k ≠ 192 → ad' k = ad k) (e1 : ad' 191 = ad 192) (cy : Nat → ClassId) (k : Nat) (hk : k < 192) (h1 : k ≠ 191) : o_rC ad' cy (o_mem (o_gB g c q) k) = o_rC ad cy (o_up (o_up (o_mem g) 192 A) 190 (.inr (11, [.ref 192, .int (o_I (g 190 1)), .int (o_I (g 190 2)), .int (o_I (g 190 3))])) k) := by
  by_cases h0 : k = 190
  · subst h0
    show Sum.inr (11, [Value.ref (ad' 191), .int (o_I (o_gB g c q 190 1)), .int (o_I (o_gB g c q 190 2)), .int (o_I (o_gB g c q 190 3))]) = Sum.inr (11, [Value.ref (ad 192), .int (o_I (g 190 1)), .int (o_I (g 190 2)), .int (o_I (g 190 3))])
    rw [e1, o_gB_k (by decide), o_gB_k (by decide), o_gB_k (by decide)]
  · have hp := o_F_ok hk h0 h1
    have e2 : o_up (o_up (o_mem g) 192 A) 190 (.inr (11, [.ref 192, .int (o_I (g 190 1)), .int (o_I (g 190 2)), .int (o_I (g 190 3))])) k = o_mem g k := by
      unfold o_up
      rw [if_neg h0, if_neg (by omega)]
    rw [e2]
    have e3 : o_mem (o_gB g c q) k = o_mem g k := by
      show o_FF k (o_gB g c q k) (o_gB g c q 190 9) = o_FF k (g k) (g 190 9)
      rw [o_gB_n h0 h1]
      exact hp.1 _ _ _
    rw [e3]
    exact o_rC_9 (hp.2 _ _) e
set_option maxRecDepth 100000 in
set_option maxHeartbeats 4000000 in
/-- ensureCapacityInternal(q) -/
theorem ct_J5_ensureCapacityInternal_d00df {l : Launch} (hl : l.stackTraces = false) (d : Nat) (g : Nat → Nat → Int) (L : List Int) (hsb : o_sb g L) (q : Int) (hq : 0 ≤ q ∧ q ≤ 109) : o_Ct l yJ5_ensureCapacityInternal_d00df wJ5_ensureCapacityInternal_d00df (d + 3) o_a1 [.ref 190, .int (o_I q)] o_N (o_mem g) 1 220 (o_mt none (fun g' => o_sb g' L ∧ o_fr o_cB g g' ∧ ∃ c' : Nat, g' 190 9 = c' ∧ q ≤ c')) := by
  refine o_Ct.ofV hl mJ5_ensureCapacityInternal_d00df (by decide +kernel) rfl rfl rfl (Nat.le_of_ble_eq_true rfl) ?_
  obtain ⟨h1, ⟨c, hc, hc2, hc3, hc4⟩, hc5, hc6⟩ := id hsb
  have e191 : o_mem g 191 = .inl (3, c, .inl (fun j => o_I (g 191 j))) := by rw [o_m191, hc, Int.toNat_natCast]
  refine o_aload_n dJ5_ensureCapacityInternal_d00df_0 rfl ?_
  refine o_gf dJ5_ensureCapacityInternal_d00df_1 fl_J5_15 rfl (by decide) rfl ?_
  refine o_alenN dJ5_ensureCapacityInternal_d00df_4 (by decide) e191 rfl ?_
  refine o_aload_n dJ5_ensureCapacityInternal_d00df_5 rfl ?_
  refine o_gf dJ5_ensureCapacityInternal_d00df_6 fl_J5_22 rfl (by decide) rfl ?_
  rw [h1]
  refine o_ishr dJ5_ensureCapacityInternal_d00df_9 ?_
  rw [o_shr0]
  refine o_istore_n dJ5_ensureCapacityInternal_d00df_10 (by decide) ?_
  refine o_iload_n dJ5_ensureCapacityInternal_d00df_11 rfl ?_
  refine o_iload_n dJ5_ensureCapacityInternal_d00df_12 rfl ?_
  refine o_isub dJ5_ensureCapacityInternal_d00df_13 ?_
  refine o_if_le (tgt := 38) dJ5_ensureCapacityInternal_d00df_14 (by decide) ⟨by omega, by omega⟩ (fun c_14 => ?_) (fun c_14 => ?_)
  · skip
    refine o_ret0 dJ5_ensureCapacityInternal_d00df_38 trivial ?_
    exact o_mt0 ⟨hsb, o_fr_r, c, hc, by omega⟩
  · skip
    refine o_aload_n dJ5_ensureCapacityInternal_d00df_17 rfl ?_
    refine o_aload_n dJ5_ensureCapacityInternal_d00df_18 rfl ?_
    refine o_gf dJ5_ensureCapacityInternal_d00df_19 fl_J5_15 rfl (by decide) rfl ?_
    refine o_aload_n dJ5_ensureCapacityInternal_d00df_22 rfl ?_
    refine o_iload_n dJ5_ensureCapacityInternal_d00df_23 rfl ?_
    refine o_cG RJ4 _ (ct_J5_newCapacity_0f7a4 hl d g c h1 hc hc2 q (by omega)) dJ5_ensureCapacityInternal_d00df_24 ml_J5_104 yW_ncp rfl (by decide) (by omega) (o_recW (by decide) rfl rfl) rfl (Nat.le_of_ble_eq_true rfl) ?_
    refine o_aload_n dJ5_ensureCapacityInternal_d00df_27 rfl ?_
    refine o_gf dJ5_ensureCapacityInternal_d00df_28 fl_J5_22 rfl (by decide) rfl ?_
    rw [h1]
    refine o_ishl dJ5_ensureCapacityInternal_d00df_31 ?_
    rw [o_shl0]
    obtain ⟨q9, hq9⟩ : ∃ q9 : Nat, (q9 : Int) = c + max (q - c) (c + 2) := ⟨(c + max (q - c) (c + 2) : Int).toNat, by omega⟩
    rw [← hq9]
    refine o_loc [(0, .ref 190), (1, .int (o_I q)), (2, .int (o_I (c : Int)))] rfl ?_
    refine o_callS (aly := fun k => k = 192) [.ref 191, .int (o_I (q9 : Int))] (rest := [.ref 190]) (ct_J7_copyOf_9075b hl d g c q9 hc hc4 (by omega) (by omega)) dJ5_ensureCapacityInternal_d00df_32 ml_J5_108 ys_J7_copyOf_9075b rfl (by decide) (by omega) (by omega) (by omega) rfl (Nat.le_of_ble_eq_true rfl) (fun k z => Or.inr z) (fun k z => by rw [z]; decide) (Or.inr ⟨fun x hx k hk z => o_lrB_ok (ls := [(0, .ref 190), (1, .int (o_I q)), (2, .int (o_I (c : Int)))]) rfl x hx k hk (Or.inr z), fun v hv k hk z => o_lrS_ok (st := [.ref 190]) rfl v hv k hk (Or.inr z)⟩) (fun v' n' h' hp => ?_) (fun E n' h' hp => by cases hp.1)
    obtain ⟨hv, rfl, rfl⟩ := hp
    cases hv
    refine o_pf (k := 0) dJ5_ensureCapacityInternal_d00df_35 fp_J5_15 rfl (by decide) (Nat.le_of_ble_eq_true rfl) (fun _ => rfl) (fun _ => rfl) rfl ?_
    refine o_swap (a := 191) (n := 192) (h' := o_mem (o_gB g c q9)) (by decide) (by decide) (Or.inl rfl) ?_ ?_ ?_ (fun ad ad' e e1 cy k hk h1 => o_swB ad ad' e e1 cy k hk h1) (fun _ _ _ => rfl) ?_
    · exact ⟨fun x hx k hk z => o_lrB_ok (ls := [(0, .ref 190), (1, .int (o_I q)), (2, .int (o_I (c : Int)))]) rfl x hx k hk (Or.inl z), fun v hv => by cases hv⟩
    · exact ⟨fun x hx k hk z => o_lrB_ok (ls := [(0, .ref 190), (1, .int (o_I q)), (2, .int (o_I (c : Int)))]) rfl x hx k hk (Or.inr z), fun v hv => by cases hv⟩
    · show o_mem (o_gB g c q9) 191 = _
      rw [o_m191, o_gB_9, Int.toNat_natCast]
      rfl
    refine o_ret0 dJ5_ensureCapacityInternal_d00df_38 trivial ?_
    exact o_mt0 ⟨o_gB_sb hsb hc (by omega) (by omega), o_gB_fr, q9, o_gB_9, by omega⟩
