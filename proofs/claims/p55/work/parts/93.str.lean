/-! texts: String constants, and Strings in the heap -/
def s_wt (num : Nat) (w : List Int) : Prop := (num, w.map o_I) ∈ o_sv
theorem z_sv9 {num : Nat} {w : List Int} (h : s_wt num w) (Z : o_Z) (ad : Nat → Nat) (s : State) (E : o_Ex Z ad s) : va_O "java/lang/String" (ad (2000000 + num)) (o_A Z) s s.heap ∧ va_OF "java/lang/String" "coder" "B" (.int (o_I 0)) (ad (2000000 + num)) (o_A Z) s s.heap ∧ va_OF "java/lang/String" "value" "[B" (.ref (ad (3000000 + num))) (ad (2000000 + num)) (o_A Z) s s.heap ∧ va_T .byte (ad (3000000 + num)) w.length (fun j => .int (o_I (w.getD j 0))) (o_A Z) s s.heap := by
  obtain ⟨h1, h2, h3, h4⟩ := E.2.2.2.2.1.2.1 _ h
  refine ⟨h1, h2, h3, ?_⟩
  have e : (fun j => Value.int ((w.map o_I).getD j 0)) = fun j => Value.int (o_I (w.getD j 0)) := by
    funext j
    congr 1
    rw [List.getD_eq_getElem?_getD, List.getD_eq_getElem?_getD, List.getElem?_map]
    cases w[j]? with
    | none => rfl
    | some x => rfl
  rw [List.length_map] at h4
  rw [← e]
  exact h4
/-- the text L stands at r: a constant, or a String in the heap; w: its bytes -/
def o_SA (n : Nat) (h : Nat → o_C) (r w : Nat) (L : List Int) : Prop := (∀ c ∈ L, 0 ≤ c ∧ c < 128) ∧ L.length ≤ 109 ∧ ((∃ num, r = 2000000 + num ∧ w = 3000000 + num ∧ s_wt num L) ∨ (r < n ∧ w < n ∧ (∃ h1 h2 : Int, h r = .inr (10, [.ref w, .int (o_I 0), .int (o_I h1), .int (o_I h2)])) ∧ ∃ f : Nat → Int, h w = .inl (3, L.length, .inl (fun j => o_I (f j))) ∧ ∀ j, j < L.length → f j = L.getD j 0))
theorem o_SA.mv {n n' : Nat} {h h' : Nat → o_C} {r w : Nat} {L : List Int} (hS : o_SA n h r w L) (hn : n ≤ n') (e : (r < n → h' r = h r) ∧ (w < n → h' w = h w)) : o_SA n' h' r w L := by
  obtain ⟨a, b, c⟩ := hS
  refine ⟨a, b, ?_⟩
  rcases c with c | ⟨c1, c2, ⟨h1, h2, c3⟩, f, c4, c5⟩
  · exact Or.inl c
  · exact Or.inr ⟨by omega, by omega, ⟨h1, h2, by rw [e.1 c1]; exact c3⟩, f, by rw [e.2 c2]; exact c4, c5⟩
section SS
variable {l : Launch} {M : o_M} {d : Nat} {al : Nat → Prop} {post : o_P} {pc : Nat} {ls : List (Nat × Value)} {st : List Value} {n : Nat} {h : Nat → o_C} {mc ms : Nat} {r w : Nat} {L : List Int}
theorem s_cl10 {C : String} {T : u_T} {N : Nat} (h : o_cl[10]? = some (C, T, N)) : C = "java/lang/String" ∧ T = TJ0 ∧ N = 4 := by
  have h' : some ("java/lang/String", TJ0, 4) = some (C, T, N) := h
  cases h'
  exact ⟨rfl, rfl, rfl⟩
theorem s_gv (hS : o_SA n h r w L) {i : Nat} (hd : decode M.2.1 pc = .ok (.getfield i, 3)) (hf : o_fl M.1 i 10 0) (k : o_V l M d al post (pc + 3) ls (.ref w :: st) n h mc ms) : o_V l M d al post pc ls (.ref r :: st) n h mc ms := by
  rcases hS.2.2 with ⟨num, rfl, rfl, hw⟩ | ⟨h1, h2, ⟨a, b, h3⟩, h4⟩
  · obtain ⟨C, T, N, hc, hk, hw2⟩ := id hf
    obtain ⟨rfl, rfl, rfl⟩ := s_cl10 hc
    exact o_gfC (v := .ref (3000000 + num)) hd hw2 (fun Z ad s E => (z_sv9 hw Z ad s E).2.2.1) k
  · exact o_gf hd hf h3 h1 rfl k
theorem s_gc (hS : o_SA n h r w L) {i : Nat} (hd : decode M.2.1 pc = .ok (.getfield i, 3)) (hf : o_fl M.1 i 10 1) (k : o_V l M d al post (pc + 3) ls (.int (o_I 0) :: st) n h mc ms) : o_V l M d al post pc ls (.ref r :: st) n h mc ms := by
  rcases hS.2.2 with ⟨num, rfl, rfl, hw⟩ | ⟨h1, h2, ⟨a, b, h3⟩, h4⟩
  · obtain ⟨C, T, N, hc, hk, hw2⟩ := id hf
    obtain ⟨rfl, rfl, rfl⟩ := s_cl10 hc
    exact o_gfC (v := .int (o_I 0)) hd hw2 (fun Z ad s E => (z_sv9 hw Z ad s E).2.1) k
  · exact o_gf hd hf h3 h1 rfl k
theorem s_al (hS : o_SA n h r w L) (hd : decode M.2.1 pc = .ok (.arraylength, 1)) (k : o_V l M d al post (pc + 1) ls (.int (o_I (L.length : Int)) :: st) n h mc ms) : o_V l M d al post pc ls (.ref w :: st) n h mc ms := by
  rcases hS.2.2 with ⟨num, rfl, rfl, hw⟩ | ⟨h1, h2, -, f, h4, h5⟩
  · exact o_tlC hd (fun Z ad s E => (z_sv9 hw Z ad s E).2.2.2) k
  · exact o_alenN hd h2 h4 rfl k
theorem s_ld (hS : o_SA n h r w L) {i : Int} (hd : decode M.2.1 pc = .ok (.baload, 1)) (h0 : 0 ≤ i) (h1 : i < L.length) (k : o_V l M d al post (pc + 1) ls (.int (o_I (L.getD i.toNat 0)) :: st) n h mc ms) : o_V l M d al post pc ls (.int (o_I i) :: .ref w :: st) n h mc ms := by
  have hl := hS.2.1
  rcases hS.2.2 with ⟨num, rfl, rfl, hw⟩ | ⟨h1', h2, -, f, h4, h5⟩
  · exact o_tbC (z := o_I (L.getD i.toNat 0)) hd (fun Z ad s E => (z_sv9 hw Z ad s E).2.2.2) h0 h1 (by omega) rfl k
  · refine o_bald hd h2 h4 (by omega) h0 h1 ?_
    rw [h5 i.toNat (by omega)]
    exact k
theorem s_rc (hS : o_SA n h r w L) : o_rec RJ0 r n h := by
  rcases hS.2.2 with ⟨num, rfl, rfl, hw⟩ | ⟨h1, h2, ⟨a, b, h3⟩, h4⟩
  · exact o_recC (fun Z ad s E => (z_sv9 hw Z ad s E).1)
  · exact o_recW h1 h3 rfl
/-- the bytes are copied -/
theorem s_cp {index q len1 : Nat} {g : Nat → Int} {dp : Int} (hS : o_SA n h r w L) (hd : decode M.2.1 pc = .ok (.invokestatic index, 3)) (hw : Cond.methodLink M.1 index arraycopyName ∈ o_gW) (hw1 : Cond.native arraycopyName ∈ o_gW) (hw2 : Cond.static arraycopyName ∈ o_gW) (hw3 : Cond.initialized "java/lang/System" ∈ o_gW) (hq : q < n) (hh : h q = .inl (3, len1, .inl (fun j => o_I (g j)))) (hl1 : len1 ≤ 1000000) (h1 : 0 ≤ dp) (h4 : dp + L.length ≤ len1) (hcat : (st.map fun v => v.category).sum ≤ 20)
    (k9 : ∀ f : Nat → Int, (∀ j, j < L.length → f j = L.getD j 0) → o_V l M d al post (pc + 3) ls st n (o_up h q (.inl (3, len1, .inl (fun j => o_I (va_cpy f g 0 dp.toNat L.length j))))) mc ms) : o_V l M d al post pc ls (.int (o_I (L.length : Int)) :: .int (o_I dp) :: .ref q :: .int (o_I 0) :: .ref w :: st) n h mc ms := by
  have hl := hS.2.1
  have hcc : ∀ j, j < L.length → 0 ≤ L.getD j 0 ∧ L.getD j 0 < 128 := fun j hj => hS.1 _ (o_getD_mem hj)
  rcases hS.2.2 with ⟨num, rfl, rfl, hwt⟩ | ⟨h1', h2, -, f, h5, h6⟩
  · have k8 := k9 (fun j => L.getD j 0) (fun j _ => rfl)
    intro Z p e R s m args below meth c ad H locs cells slots MC MS la Q X E S P a1 a2 a3 a4 L9 K
    have r1 : o_R 0 := o_R0
    have r2 : o_R dp := ⟨by omega, by omega⟩
    have r3 : o_R (L.length : Int) := ⟨by omega, by omega⟩
    have b1 : (o_I 0).toNatClampNeg + (o_I (L.length : Int)).toNatClampNeg ≤ L.length := by rw [o_clamp r1, o_clamp r3]; omega
    have b2 : (o_I dp).toNatClampNeg + (o_I (L.length : Int)).toNatClampNeg ≤ len1 := by rw [o_clamp r2, o_clamp r3]; omega
    have b3 : 1 ≤ R.frames := by have := X.2.2.2.2.2.2.2.2.2.1; omega
    have b5 : nativeFrameWords "java/lang/System" "arraycopy" 5 ≤ 60 := by decide +kernel
    have b4 : ((st.map (o_rV ad)).map fun v => v.category).sum + (nativeFrameWords "java/lang/System" "arraycopy" 5 + 11) ≤ R.locals := by
      have := X.2.2.2.2.2.2.2.2.2.2
      rw [o_cats]
      omega
    refine vk_copyt (D := Z.2.1) (cl := o_cl) (tys := o_tys Z) X.1 X.2.1 (X.2.2.2.2.1.trans L9.1.symm) X.2.2.1 (X.2.2.2.1 _ hw) (X.2.2.2.1 _ hw1) (X.2.2.2.1 _ hw2) (X.2.2.2.1 _ hw3) E.2.1 P.1 P.2 S (f := fun j => o_I (L.getD j 0)) (z_sv9 hwt Z ad s E).2.2.2 q 3 (o_rW_get hq hh) (o_tys_get rfl) (fun q => by have := (o_lt r1 o_R0).mp q; omega) (fun q => by have := (o_lt r2 o_R0).mp q; omega) (fun q => by have := (o_lt r3 o_R0).mp q; omega) b1 b2 (fun i hi => by
      rw [o_clamp r3] at hi
      rw [o_clamp r1]
      have := hcc ((0 : Int).toNat + i) (by show 0 + i < _; omega)
      exact o_fb _ this.1 this.2) b3 b4 hd (fun H1 locs1 hP hD hS9 => ?_)
    exact k8 Z p e R s m args below meth c ad H1 locs1 cells slots MC MS la Q X E hS9 (o_Rp.set (by rw [o_clamp r1, o_clamp r2, o_clamp r3, o_cpI]; rfl) rfl hP hD) a1 a2 a3 a4 L9 K
  · refine o_copyb (sp := 0) (dp := dp) (m0 := (L.length : Int)) hd hw hw1 hw2 hw3 h2 hq h5 hh (by omega) (by omega) (by omega) h1 (by omega) (by omega) h4 (fun i hi => by
      have e : (0 : Int).toNat + i = i := Nat.zero_add i
      rw [e, h6 i (by omega)]
      exact hcc i (by omega)) hcat rfl ?_
    exact k9 f h6
end SS
set_option maxRecDepth 100000 in
set_option maxHeartbeats 4000000 in
/-- coder -/
theorem cg_coder {l : Launch} (hl : l.stackTraces = false) (d : Nat) (n : Nat) (h : Nat → o_C) (r w : Nat) (L : List Int) (hS : o_SA n h r w L) : o_Ct l yJ0_coder_7d493 wJ0_coder_7d493 (d + 1) o_no [.ref r] n h 0 0 (o_is (some (.int (o_I 0))) n h) := by
  refine o_Ct.ofV hl mJ0_coder_7d493 (by decide +kernel) rfl rfl rfl (Nat.le_of_ble_eq_true rfl) ?_
  refine o_gs dJ0_coder_7d493_0 (o_gT (i := 1170) (by decide +kernel) rfl) z_C ?_
  refine o_if_eq (tgt := 13) dJ0_coder_7d493_3 (by decide) ⟨by omega, by omega⟩ (fun c_3 => absurd c_3 (by omega)) (fun c_3 => ?_)
  refine o_aload_n dJ0_coder_7d493_6 rfl ?_
  refine s_gc hS dJ0_coder_7d493_7 fl_J0_15 ?_
  refine o_goto (tgt := 14) dJ0_coder_7d493_10 (by decide) ?_
  refine o_ret1 dJ0_coder_7d493_14 (show narrow .byte (.int (o_I 0)) = .int (o_I 0) by decide +kernel) ?_
  exact ⟨rfl, rfl, rfl⟩
set_option maxRecDepth 100000 in
set_option maxHeartbeats 4000000 in
/-- isLatin1 -/
theorem cg_isLatin1 {l : Launch} (hl : l.stackTraces = false) (d : Nat) (n : Nat) (h : Nat → o_C) (r w : Nat) (L : List Int) (hS : o_SA n h r w L) : o_Ct l yJ0_isLatin1_aae02 wJ0_isLatin1_aae02 (d + 1) o_no [.ref r] n h 0 0 (o_is (some (.int (o_I 1))) n h) := by
  refine o_Ct.ofV hl mJ0_isLatin1_aae02 (by decide +kernel) rfl rfl rfl (Nat.le_of_ble_eq_true rfl) ?_
  refine o_gs dJ0_isLatin1_aae02_0 (o_gT (i := 1170) (by decide +kernel) rfl) z_C ?_
  refine o_if_eq (tgt := 17) dJ0_isLatin1_aae02_3 (by decide) ⟨by omega, by omega⟩ (fun c_3 => absurd c_3 (by omega)) (fun c_3 => ?_)
  refine o_aload_n dJ0_isLatin1_aae02_6 rfl ?_
  refine s_gc hS dJ0_isLatin1_aae02_7 fl_J0_15 ?_
  refine o_if_ne (tgt := 17) dJ0_isLatin1_aae02_10 (by decide) ⟨by omega, by omega⟩ (fun c_10 => absurd rfl c_10) (fun c_10 => ?_)
  refine o_iconst dJ0_isLatin1_aae02_13 ?_
  refine o_goto (tgt := 18) dJ0_isLatin1_aae02_14 (by decide) ?_
  refine o_ret1 dJ0_isLatin1_aae02_18 o_rb1 ?_
  exact ⟨rfl, rfl, rfl⟩
set_option maxRecDepth 100000 in
set_option maxHeartbeats 4000000 in
/-- length -/
theorem cg_length {l : Launch} (hl : l.stackTraces = false) (d : Nat) (n : Nat) (h : Nat → o_C) (r w : Nat) (L : List Int) (hS : o_SA n h r w L) : o_Ct l yJ0_length_8abf5 wJ0_length_8abf5 (d + 2) o_no [.ref r] n h 0 0 (o_is (some (.int (o_I (L.length : Int)))) n h) := by
  refine o_Ct.ofV hl mJ0_length_8abf5 (by decide +kernel) rfl rfl rfl (Nat.le_of_ble_eq_true rfl) ?_
  refine o_aload_n dJ0_length_8abf5_0 rfl ?_
  refine s_gv hS dJ0_length_8abf5_1 fl_J0_9 ?_
  refine s_al hS dJ0_length_8abf5_4 ?_
  refine o_aload_n dJ0_length_8abf5_5 rfl ?_
  refine o_cG RJ0 _ (cg_coder hl d n h r w L hS) dJ0_length_8abf5_6 ml_J0_335 yw_J0_coder_7d493 rfl (by decide) (by omega) (s_rc hS) rfl (Nat.le_of_ble_eq_true rfl) ?_
  refine o_ishr dJ0_length_8abf5_9 ?_
  rw [o_shr0]
  refine o_ret1 dJ0_length_8abf5_10 trivial ?_
  exact ⟨rfl, rfl, rfl⟩
set_option maxRecDepth 100000 in
set_option maxHeartbeats 4000000 in
/-- charAt(bytes, i) -/
theorem cg_charAt1 {l : Launch} (hl : l.stackTraces = false) (d : Nat) (n : Nat) (h : Nat → o_C) (r w : Nat) (L : List Int) (hS : o_SA n h r w L) (i : Int) (hi : 0 ≤ i ∧ i < L.length) : o_Ct l yJ1_charAt_3b067 wJ1_charAt_3b067 (d + 3) o_no [.ref w, .int (o_I i)] n h 0 0 (o_is (some (.int (o_I (L.getD i.toNat 0)))) n h) := by
  refine o_Ct.ofV hl mJ1_charAt_3b067 (by decide +kernel) rfl rfl rfl (Nat.le_of_ble_eq_true rfl) ?_
  have hw9 := hS.2.1
  have hcc := hS.1 _ (o_getD_mem (w := L) (j := i.toNat) (by omega))
  refine o_iload_n dJ1_charAt_3b067_0 rfl ?_
  refine o_aload_n dJ1_charAt_3b067_1 rfl ?_
  refine s_al hS dJ1_charAt_3b067_2 ?_
  refine o_cS _ (ct_J0_checkIndex_df160 hl d n h i L.length hi (by omega)) dJ1_charAt_3b067_3 ml_J1_9 ys_J0_checkIndex_df160 rfl (by decide) (by omega) rfl (Nat.le_of_ble_eq_true rfl) ?_
  refine o_aload_n dJ1_charAt_3b067_6 rfl ?_
  refine o_iload_n dJ1_charAt_3b067_7 rfl ?_
  refine s_ld hS dJ1_charAt_3b067_8 hi.1 hi.2 ?_
  refine o_sipush dJ1_charAt_3b067_9 (by decide) ?_
  refine o_iand dJ1_charAt_3b067_12 ?_
  rw [o_an (L.getD i.toNat 0) hcc.1 hcc.2]
  refine o_i2c dJ1_charAt_3b067_13 ?_
  rw [o_i2cN (L.getD i.toNat 0) hcc.1 hcc.2]
  refine o_ret1 dJ1_charAt_3b067_14 (o_rcN _ (by omega) (by omega)) ?_
  exact ⟨rfl, rfl, rfl⟩
set_option maxRecDepth 100000 in
set_option maxHeartbeats 4000000 in
/-- charAt(i) -/
theorem cg_charAt {l : Launch} (hl : l.stackTraces = false) (d : Nat) (n : Nat) (h : Nat → o_C) (r w : Nat) (L : List Int) (hS : o_SA n h r w L) (i : Int) (hi : 0 ≤ i ∧ i < L.length) : o_Ct l yJ0_charAt_5068e wJ0_charAt_5068e (d + 5) o_no [.ref r, .int (o_I i)] n h 0 0 (o_is (some (.int (o_I (L.getD i.toNat 0)))) n h) := by
  refine o_Ct.ofV hl mJ0_charAt_5068e (by decide +kernel) rfl rfl rfl (Nat.le_of_ble_eq_true rfl) ?_
  have hcc := hS.1 _ (o_getD_mem (w := L) (j := i.toNat) (by omega))
  refine o_aload_n dJ0_charAt_5068e_0 rfl ?_
  refine o_cG RJ0 _ (cg_isLatin1 hl (d + 3) n h r w L hS) dJ0_charAt_5068e_1 ml_J0_492 yw_J0_isLatin1_aae02 rfl (by decide) (by omega) (s_rc hS) rfl (Nat.le_of_ble_eq_true rfl) ?_
  refine o_if_eq (tgt := 16) dJ0_charAt_5068e_4 (by decide) ⟨by omega, by omega⟩ (fun c_4 => absurd c_4 (by omega)) (fun c_4 => ?_)
  refine o_aload_n dJ0_charAt_5068e_7 rfl ?_
  refine s_gv hS dJ0_charAt_5068e_8 fl_J0_9 ?_
  refine o_iload_n dJ0_charAt_5068e_11 rfl ?_
  refine o_cS _ (cg_charAt1 hl d n h r w L hS i hi) dJ0_charAt_5068e_12 ml_J0_495 ys_J1_charAt_3b067 rfl (by decide) (by omega) rfl (Nat.le_of_ble_eq_true rfl) ?_
  refine o_ret1 dJ0_charAt_5068e_15 (o_rcN _ (by omega) (by omega)) ?_
  exact ⟨rfl, rfl, rfl⟩
set_option maxRecDepth 100000 in
set_option maxHeartbeats 4000000 in
/-- getBytes(bytes, at, 0) -/
theorem cg_getBytes {l : Launch} (hl : l.stackTraces = false) (d : Nat) (n : Nat) (h : Nat → o_C) (r w : Nat) (L : List Int) (hS : o_SA n h r w L) (q len1 : Nat) (g : Nat → Int) (dp : Int) (hq : q < n) (hh : h q = .inl (3, len1, .inl (fun j => o_I (g j)))) (hl1 : len1 ≤ 1000000) (h1 : 0 ≤ dp) (h4 : dp + L.length ≤ len1) : o_Ct l yJ0_getBytes_840e7 wJ0_getBytes_840e7 (d + 2) o_no [.ref r, .ref q, .int (o_I dp), .int (o_I 0)] n h 0 0 ((fun o n' h' => o = .inl none ∧ n' = n ∧ ∃ f : Nat → Int, (∀ j, j < L.length → f j = L.getD j 0) ∧ h' = o_up h q (.inl (3, len1, .inl (fun j => o_I (va_cpy f g 0 dp.toNat L.length j)))))) := by
  refine o_Ct.ofV hl mJ0_getBytes_840e7 (by decide +kernel) rfl rfl rfl (Nat.le_of_ble_eq_true rfl) ?_
  refine o_aload_n dJ0_getBytes_840e7_0 rfl ?_
  refine o_cG RJ0 _ (cg_coder hl d n h r w L hS) dJ0_getBytes_840e7_1 ml_J0_335 yw_J0_coder_7d493 rfl (by decide) (by omega) (s_rc hS) rfl (Nat.le_of_ble_eq_true rfl) ?_
  refine o_iload_n dJ0_getBytes_840e7_4 rfl ?_
  refine o_icmp_ne (tgt := 28) dJ0_getBytes_840e7_5 (by decide) ⟨by omega, by omega⟩ ⟨by omega, by omega⟩ (fun c_5 => absurd rfl c_5) (fun c_5 => ?_)
  refine o_aload_n dJ0_getBytes_840e7_8 rfl ?_
  refine s_gv hS dJ0_getBytes_840e7_9 fl_J0_9 ?_
  refine o_iconst dJ0_getBytes_840e7_12 ?_
  refine o_aload_n dJ0_getBytes_840e7_13 rfl ?_
  refine o_iload_n dJ0_getBytes_840e7_14 rfl ?_
  refine o_iload_n dJ0_getBytes_840e7_15 rfl ?_
  refine o_ishl dJ0_getBytes_840e7_16 ?_
  rw [o_shl0]
  refine o_aload_n dJ0_getBytes_840e7_17 rfl ?_
  refine s_gv hS dJ0_getBytes_840e7_18 fl_J0_9 ?_
  refine s_al hS dJ0_getBytes_840e7_21 ?_
  refine s_cp hS dJ0_getBytes_840e7_22 (o_gT (i := 1203) (by decide +kernel) rfl) (o_gT (i := 1130) (by decide +kernel) rfl) (o_gT (i := 1129) (by decide +kernel) rfl) (o_gT (i := 30) (by decide +kernel) rfl) hq hh hl1 h1 h4 (Nat.le_of_ble_eq_true rfl) (fun f hf => ?_)
  refine o_goto (tgt := 43) dJ0_getBytes_840e7_25 (by decide) ?_
  refine o_ret0 dJ0_getBytes_840e7_43 trivial ?_
  exact ⟨rfl, rfl, f, hf, rfl⟩
set_option maxRecDepth 100000 in
set_option maxHeartbeats 4000000 in
/-- inflateIfNeededFor -/
theorem cg_inflate {l : Launch} (hl : l.stackTraces = false) (d : Nat) (n : Nat) (h : Nat → o_C) (r w : Nat) (L : List Int) (hS : o_SA n h r w L) (b : Nat) (g : Nat → Nat → Int) (hb : b + 1 < n) (h0 : h b = sbC0 b g) (hg1 : g 0 1 = 0) : o_Ct l yJ5_inflateIfNeededFor_a7421 wJ5_inflateIfNeededFor_a7421 (d + 2) o_no [.ref b, .ref r] n h 0 0 (o_is none n h) := by
  refine o_Ct.ofV hl mJ5_inflateIfNeededFor_a7421 (by decide +kernel) rfl rfl rfl (Nat.le_of_ble_eq_true rfl) ?_
  refine o_gs dJ5_inflateIfNeededFor_a7421_0 (o_gT (i := 283) (by decide +kernel) rfl) z_C ?_
  refine o_if_eq (tgt := 21) dJ5_inflateIfNeededFor_a7421_3 (by decide) ⟨by omega, by omega⟩ (fun c_3 => absurd c_3 (by omega)) (fun c_3 => ?_)
  refine o_aload_n dJ5_inflateIfNeededFor_a7421_6 rfl ?_
  refine o_gf dJ5_inflateIfNeededFor_a7421_7 fl_J5_22 h0 (by omega) rfl ?_
  rw [hg1]
  refine o_aload_n dJ5_inflateIfNeededFor_a7421_10 rfl ?_
  refine o_cG RJ0 _ (cg_coder hl d n h r w L hS) dJ5_inflateIfNeededFor_a7421_11 ml_J5_40 yw_J0_coder_7d493 rfl (by decide) (by omega) (s_rc hS) rfl (Nat.le_of_ble_eq_true rfl) ?_
  refine o_icmp_eq (tgt := 21) dJ5_inflateIfNeededFor_a7421_14 (by decide) ⟨by omega, by omega⟩ ⟨by omega, by omega⟩ (fun c_14 => ?_) (fun c_14 => absurd rfl c_14)
  refine o_ret0 dJ5_inflateIfNeededFor_a7421_21 trivial ?_
  exact ⟨rfl, rfl, rfl⟩
theorem yW_put : o_yW RJ4 yJ5_putStringAt_47b60 wJ5_putStringAt_47b60 := ⟨(o_gT (i := 1173) (by decide +kernel) rfl), o_gM (List.mem_cons_of_mem _ (List.mem_cons_of_mem _ List.mem_cons_self)) rfl, (o_gT (i := 13) (by decide +kernel) rfl), (o_gT (i := 1174) (by decide +kernel) rfl)⟩
theorem yW_inf : o_yW RJ4 yJ5_inflateIfNeededFor_a7421 wJ5_inflateIfNeededFor_a7421 := ⟨(o_gT (i := 1177) (by decide +kernel) rfl), o_gM (List.mem_cons_of_mem _ (List.mem_cons_of_mem _ (List.mem_cons_of_mem _ List.mem_cons_self))) rfl, (o_gT (i := 13) (by decide +kernel) rfl), (o_gT (i := 1178) (by decide +kernel) rfl)⟩
set_option maxRecDepth 100000 in
set_option maxHeartbeats 4000000 in
/-- putStringAt(at, text) -/
theorem cg_putStringAt {l : Launch} (hl : l.stackTraces = false) (d : Nat) (n : Nat) (h : Nat → o_C) (r w : Nat) (L : List Int) (hS : o_SA n h r w L) (b : Nat) (g : Nat → Nat → Int) (hb : b + 1 < n) (h0 : h b = sbC0 b g) (hg1 : g 0 1 = 0) (c9 : Nat) (hc9 : c9 ≤ 1000000) (h9 : h (b + 1) = .inl (3, c9, .inl (fun j => o_I (g 1 j)))) (dp : Int) (h1 : 0 ≤ dp) (h4 : dp + L.length ≤ c9) : o_Ct l yJ5_putStringAt_47b60 wJ5_putStringAt_47b60 (d + 3) o_no [.ref b, .int (o_I dp), .ref r] n h 0 0 ((fun o n' h' => o = .inl none ∧ n' = n ∧ ∃ f : Nat → Int, (∀ j, j < L.length → f j = L.getD j 0) ∧ h' = o_up h (b + 1) (.inl (3, c9, .inl (fun j => o_I (va_cpy f (g 1) 0 dp.toNat L.length j)))))) := by
  refine o_Ct.ofV hl mJ5_putStringAt_47b60 (by decide +kernel) rfl rfl rfl (Nat.le_of_ble_eq_true rfl) ?_
  refine o_aload_n dJ5_putStringAt_47b60_0 rfl ?_
  refine o_aload_n dJ5_putStringAt_47b60_1 rfl ?_
  refine o_cG RJ4 _ (cg_inflate hl d n h r w L hS b g hb h0 hg1) dJ5_putStringAt_47b60_2 ml_J5_397 yW_inf rfl (by decide) (by omega) (o_recW (by omega) h0 rfl) rfl (Nat.le_of_ble_eq_true rfl) ?_
  refine o_aload_n dJ5_putStringAt_47b60_5 rfl ?_
  refine o_aload_n dJ5_putStringAt_47b60_6 rfl ?_
  refine o_gf dJ5_putStringAt_47b60_7 fl_J5_15 h0 (by omega) rfl ?_
  refine o_iload_n dJ5_putStringAt_47b60_10 rfl ?_
  refine o_aload_n dJ5_putStringAt_47b60_11 rfl ?_
  refine o_gf dJ5_putStringAt_47b60_12 fl_J5_22 h0 (by omega) rfl ?_
  rw [hg1]
  refine o_callG RJ0 [.ref (b + 1), .int (o_I dp), .int (o_I 0)] (cg_getBytes hl d n h r w L hS (b + 1) c9 (g 1) dp hb h9 hc9 h1 h4) dJ5_putStringAt_47b60_15 ml_J5_399 yw_J0_getBytes_840e7 rfl (by decide) (by omega) (Nat.zero_le _) (Nat.zero_le _) (s_rc hS) rfl (Nat.le_of_ble_eq_true rfl) (fun _ z => z.elim) (fun _ z => z.elim) (Or.inl fun _ z => z) (fun v9 n9 h9 q9 => ?_) (fun E n9 h9 q9 => by cases q9.1)
  obtain ⟨w1, rfl, f, hf, rfl⟩ := q9
  cases w1
  refine o_ret0 dJ5_putStringAt_47b60_18 trivial ?_
  exact ⟨rfl, rfl, f, hf, rfl⟩
theorem o_SA.sb {N b : Nat} {G : Nat → o_C} {g : Nat → Nat → Int} {r w : Nat} {L : List Int} (hS : o_SA N G r w L) (hr : r ≠ b ∧ r ≠ b + 1 ∧ w ≠ b ∧ w ≠ b + 1) : o_SA N (sbH G b g) r w L := hS.mv (Nat.le_refl _) ⟨fun _ => sbH_n hr.1 hr.2.1, fun _ => sbH_n hr.2.2.1 hr.2.2.2⟩
theorem sbH_up1 {G : Nat → o_C} {b : Nat} {g : Nat → Nat → Int} {F : Nat → Int} {c9 : Nat} (hc : g 0 9 = c9) : o_up (sbH G b g) (b + 1) (.inl (3, c9, .inl (fun j => o_I (F j)))) = sbH G b (fun a j => if a = 1 then F j else g a j) := by
  funext k
  unfold o_up
  by_cases h1 : k = b + 1
  · subst h1
    rw [if_pos rfl, sbH_1]
    show _ = Sum.inl (3, (g 0 9).toNat, _)
    rw [hc, Int.toNat_natCast]
    rfl
  · rw [if_neg h1]
    by_cases h0 : k = b
    · subst h0
      rw [sbH_0, sbH_0]
      rfl
    · rw [sbH_n h0 h1, sbH_n h0 h1]
theorem sbH_up0 {G : Nat → o_C} {b : Nat} {g : Nat → Nat → Int} {z : Int} : o_up (sbH G b g) b (.inr (11, [.ref (b + 1), .int (o_I (g 0 1)), .int (o_I (g 0 2)), .int (o_I z)])) = sbH G b (o_e g 0 3 z) := by
  funext k
  unfold o_up
  by_cases h0 : k = b
  · subst h0
    rw [if_pos rfl, sbH_0]
    unfold sbC0
    rw [o_e_s, o_e_k (by decide), o_e_k (by decide)]
  · rw [if_neg h0]
    by_cases h1 : k = b + 1
    · subst h1
      rw [sbH_1, sbH_1]
      unfold sbC1
      rw [o_e_k (by decide), o_e_n (by decide)]
    · rw [sbH_n h0 h1, sbH_n h0 h1]
set_option maxRecDepth 100000 in
set_option maxHeartbeats 4000000 in
/-- append(text) -/
theorem cg_append5 {l : Launch} (hl : l.stackTraces = false) (d : Nat) (N b : Nat) (G : Nat → o_C) (g : Nat → Nat → Int) (L : List Int) (hsb : s9_sb g L) (r w : Nat) (S : List Int) (hS : o_SA N G r w S) (hr : r ≠ b ∧ r ≠ b + 1 ∧ w ≠ b ∧ w ≠ b + 1) (hb : b + 1 < N) (hN : N ≤ 1000000) (hGr : nrG (b + 1) N G (fun k => k ≠ b ∧ k ≠ b + 1)) (hlen : L.length + S.length ≤ 109) : o_Ct l yJ5_append_cf1ce wJ5_append_cf1ce (d + 4) (fun k => k = b + 1) [.ref b, .ref r] N (sbH G b g) 1 220 ((fun o n' h' => n' = N ∧ ∃ g', (s9_sb g' (L ++ S)) ∧ h' = sbH G b g' ∧ o = .inl (some (.ref b)))) := by
  refine o_Ct.ofV hl mJ5_append_cf1ce (by decide +kernel) rfl rfl rfl (Nat.le_of_ble_eq_true rfl) ?_
  have h79 := hsb.2.2.1
  refine o_aload_n dJ5_append_cf1ce_0 rfl ?_
  refine o_ifnonnull (tgt := 9) dJ5_append_cf1ce_1 (by decide) ?_
  refine o_aload_n dJ5_append_cf1ce_9 rfl ?_
  refine o_cG RJ0 _ (cg_length hl d N (sbH G b g) r w S (hS.sb hr)) dJ5_append_cf1ce_10 ml_J5_32 yw_J0_length_8abf5 rfl (by decide) (by omega) (s_rc (hS.sb hr)) rfl (Nat.le_of_ble_eq_true rfl) ?_
  refine o_istore_n dJ5_append_cf1ce_13 (by decide) ?_
  refine o_aload_n dJ5_append_cf1ce_14 rfl ?_
  refine o_aload_n dJ5_append_cf1ce_15 rfl ?_
  refine o_gf dJ5_append_cf1ce_16 fl_J5_79 (sbH_0 (G := G) (b := b) (g := g)) (by omega) rfl ?_
  rw [h79]
  refine o_iload_n dJ5_append_cf1ce_19 rfl ?_
  refine o_iadd dJ5_append_cf1ce_20 ?_
  refine o_loc [(0, .ref b), (1, .ref r), (2, .int (o_I (S.length : Int)))] rfl ?_
  have hE := o_Ct.em (G := G) (b := b) (N := N) (cs_J5_ensureCapacityInternal_d00df hl d g L hsb ((L.length : Int) + (S.length : Int)) ⟨by omega, by omega⟩) (Or.inl rfl) (fun v hv k hk => by rcases List.mem_singleton.mp hv with rfl; cases hk) hb hN hGr
  refine o_callG RJ4 [.int (o_I ((L.length : Int) + (S.length : Int)))] (rest := []) hE dJ5_append_cf1ce_21 ml_J5_100 yW_ens rfl (by decide) (by omega) (Nat.le_refl _) (Nat.le_refl _) (o_recW (by omega) (sbH_0 (G := G) (b := b) (g := g)) rfl) rfl (Nat.le_of_ble_eq_true rfl) (fun _ z => z) (fun k z => by omega) (Or.inr ⟨fun q hq k hk z => ?_, fun v hv => by cases hv⟩) (fun v9 n9 h9 q9 => ?_) (fun E n9 h9 q9 => by obtain ⟨-, g9, -, -, q⟩ := q9; cases q)
  · simp only [List.mem_cons, List.not_mem_nil, or_false] at hq
    rcases hq with rfl | rfl | rfl
    · cases hk; omega
    · cases hk; omega
    · cases hk
  obtain ⟨rfl, g1, ⟨hsb1, -, c1, hc1, hq1⟩, rfl, w1⟩ := q9
  cases w1
  have h791 := hsb1.2.2.1
  have hc9 : c1 ≤ 220 := by obtain ⟨-, ⟨c, a1, a2, -⟩, -⟩ := hsb1; omega
  refine o_aload_n dJ5_append_cf1ce_24 rfl ?_
  refine o_aload_n dJ5_append_cf1ce_25 rfl ?_
  refine o_gf dJ5_append_cf1ce_26 fl_J5_79 (sbH_0 (G := G) (b := b) (g := g1)) (by omega) rfl ?_
  rw [h791]
  refine o_aload_n dJ5_append_cf1ce_29 rfl ?_
  refine o_callG RJ4 [.int (o_I (L.length : Int)), .ref r] (rest := []) (cg_putStringAt hl d n9 (sbH G b g1) r w S (hS.sb hr) b g1 hb sbH_0 hsb1.1 c1 (by omega) (by rw [sbH_1]; unfold sbC1; rw [hc1, Int.toNat_natCast]) (L.length : Int) (by omega) (by omega)) dJ5_append_cf1ce_30 ml_J5_208 yW_put rfl (by decide) (by omega) (Nat.zero_le _) (Nat.zero_le _) (o_recW (by omega) (sbH_0 (G := G) (b := b) (g := g1)) rfl) rfl (Nat.le_of_ble_eq_true rfl) (fun _ z => z.elim) (fun _ z => z.elim) (Or.inl fun _ z => z) (fun v9 n8 h8 q8 => ?_) (fun E n8 h8 q8 => by cases q8.1)
  obtain ⟨w2, rfl, f, hf, rfl⟩ := q8
  cases w2
  rw [sbH_up1 hc1]
  obtain ⟨g2, hg2⟩ : ∃ g2 : Nat → Nat → Int, g2 = fun a j => if a = 1 then va_cpy f (g1 1) 0 (L.length : Int).toNat S.length j else g1 a j := ⟨_, rfl⟩
  rw [← hg2]
  have e20 : g2 0 = g1 0 := by rw [hg2]; rfl
  have hwr : s9_wr g1 L.length S g2 := by
    refine ⟨fun x hx => by rw [hg2]; funext j; exact if_neg hx, fun j => ?_⟩
    rw [hg2]
    show va_cpy f (g1 1) 0 (L.length : Int).toNat S.length j = _
    unfold va_cpy
    rw [Int.toNat_natCast]
    by_cases q : L.length ≤ j ∧ j < L.length + S.length
    · rw [if_pos q, if_pos q, show 0 + (j - L.length) = j - L.length by omega]
      exact hf _ (by omega)
    · rw [if_neg q, if_neg q]
  refine o_aload_n dJ5_append_cf1ce_33 rfl ?_
  refine o_dup dJ5_append_cf1ce_34 rfl ?_
  refine o_gf dJ5_append_cf1ce_35 fl_J5_79 (sbH_0 (G := G) (b := b) (g := g2)) (by omega) rfl ?_
  rw [e20, h791]
  refine o_iload_n dJ5_append_cf1ce_38 rfl ?_
  refine o_iadd dJ5_append_cf1ce_39 ?_
  refine o_pf (k := 3) (h' := sbH G b (o_e g2 0 3 ((L.length : Int) + (S.length : Int)))) dJ5_append_cf1ce_40 fp_J5_79 (sbH_0 (G := G) (b := b) (g := g2)) (by omega) (Nat.le_of_ble_eq_true rfl) (fun _ => rfl) (fun _ => rfl) sbH_up0 ?_
  refine o_aload_n dJ5_append_cf1ce_43 rfl ?_
  refine o_ret1 dJ5_append_cf1ce_44 (Or.inr ⟨_, rfl⟩) ?_
  exact ⟨rfl, _, (s9_sb_num hsb1 hc1 (by omega) hS.1 hwr (by rw [Int.natCast_add])).1, rfl, rfl⟩
set_option maxRecDepth 100000 in
set_option maxHeartbeats 4000000 in
/-- StringBuilder.append(text) -/
theorem cg_append {l : Launch} (hl : l.stackTraces = false) (d : Nat) (N b : Nat) (G : Nat → o_C) (g : Nat → Nat → Int) (L : List Int) (hsb : s9_sb g L) (r w : Nat) (S : List Int) (hS : o_SA N G r w S) (hr : r ≠ b ∧ r ≠ b + 1 ∧ w ≠ b ∧ w ≠ b + 1) (hb : b + 1 < N) (hN : N ≤ 1000000) (hGr : nrG (b + 1) N G (fun k => k ≠ b ∧ k ≠ b + 1)) (hlen : L.length + S.length ≤ 109) : o_Ct l yJ4_append_15ec4 wJ4_append_15ec4 (d + 5) (fun k => k = b + 1) [.ref b, .ref r] N (sbH G b g) 1 220 ((fun o n' h' => n' = N ∧ ∃ g', (s9_sb g' (L ++ S)) ∧ h' = sbH G b g' ∧ o = .inl (some (.ref b)))) := by
  refine o_Ct.ofV hl mJ4_append_15ec4 (by decide +kernel) rfl rfl rfl (Nat.le_of_ble_eq_true rfl) ?_
  refine o_aload_n dJ4_append_15ec4_0 rfl ?_
  refine o_aload_n dJ4_append_15ec4_1 rfl ?_
  refine o_callSU [.ref r] (rest := []) (cg_append5 hl d N b G g L hsb r w S hS hr hb hN hGr hlen) dJ4_append_15ec4_2 (List.forall_mem_cons.mpr ⟨(o_gT (i := 1093) (by decide +kernel) rfl), List.forall_mem_cons.mpr ⟨(o_gT (i := 1558) (by decide +kernel) rfl), List.forall_mem_cons.mpr ⟨(o_gT (i := 305) (by decide +kernel) rfl), List.forall_mem_cons.mpr ⟨(o_gT (i := 1094) (by decide +kernel) rfl), List.forall_mem_cons.mpr ⟨(o_gT (i := 13) (by decide +kernel) rfl), fun _ h => absurd h List.not_mem_nil⟩⟩⟩⟩⟩) (o_gT (i := 1095) (by decide +kernel) rfl) ⟨by decide, (show Option.map (fun d => d.parameters.length) (parseMethodDescriptor yJ5_append_cf1ce.desc) = some 1 by decide)⟩ (by decide) (by omega) (Nat.le_refl _) (Nat.le_refl _) (by omega) (sbH_0 (G := G) (b := b) (g := g)) rfl rfl (Nat.le_of_ble_eq_true rfl) (fun _ z => z) (fun k z => by omega) (Or.inr ⟨fun q hq k hk z => ?_, fun v hv => by cases hv⟩) (fun v9 n9 h9 q9 => ?_) (fun E n9 h9 q9 => by obtain ⟨-, g9, -, -, q⟩ := q9; cases q)
  · simp only [lv_args, List.mem_cons, List.not_mem_nil, or_false] at hq
    rcases hq with rfl | rfl
    · cases hk; omega
    · cases hk; omega
  obtain ⟨rfl, g1, hsb1, rfl, w1⟩ := q9
  cases w1
  refine o_pop dJ4_append_15ec4_5 rfl ?_
  refine o_aload_n dJ4_append_15ec4_6 rfl ?_
  refine o_ret1 dJ4_append_15ec4_7 (Or.inr ⟨_, rfl⟩) ?_
  exact ⟨rfl, g1, hsb1, rfl, rfl⟩
