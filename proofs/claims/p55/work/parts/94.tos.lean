/-! the builder's text as a String -/
section SC
variable {l : Launch} {M : o_M} {d : Nat} {al : Nat → Prop} {post : o_P} {pc : Nat} {ls : List (Nat × Value)} {st : List Value} {n : Nat} {h : Nat → o_C} {mc ms : Nat}
/-- a clone of an array of bytes -/
theorem o_clone {b len index : Nat} {f : Nat → Int} (hnr : ∀ k, k < n → o_nrC n (h k)) (hn : n < 1000000) (hal : al n) (hd : decode M.2.1 pc = .ok (.invokevirtual index, 3)) (hw : Cond.methodLink M.1 index ⟨"[B", "clone", "()Ljava/lang/Object;"⟩ ∈ o_gW) (hw1 : Cond.sameMethod "[B" "java/lang/Object" "clone" "()Ljava/lang/Object;" ∈ o_gW) (hw2 : Cond.native ⟨"java/lang/Object", "clone", "()Ljava/lang/Object;"⟩ ∈ o_gW) (hw3 : Cond.instanceMethod ⟨"java/lang/Object", "clone", "()Ljava/lang/Object;"⟩ ∈ o_gW) (hw4 : Cond.selects "[B" ⟨"[B", "clone", "()Ljava/lang/Object;"⟩ ⟨"java/lang/Object", "clone", "()Ljava/lang/Object;"⟩ ∈ o_gW)
    (hb : b < n) (hh : h b = .inl (3, len, .inl (fun j => o_I (f j)))) (hfit : ∀ j, j < len → 0 ≤ f j ∧ f j < 128) (hfr : o_refs n ls st) (hcat : (st.map fun v => v.category).sum ≤ 20) (hmc : 1 ≤ mc) (hms : len ≤ ms)
    (k : o_V l M d al post (pc + 3) ls (.ref n :: st) (n + 1) (o_up h n (.inl (3, len, .inl (fun j => o_I (f j))))) (mc - 1) (ms - len)) : o_V l M d al post pc ls (.ref b :: st) n h mc ms := by
  intro Z p e R s m args below meth c ad H locs cells slots MC MS la Q X E S P a1 a2 a3 a4 L K
  have hnm : s.vm.findClass "[B" = some (Z.2.2.1 3) := (E.2.1.2 3 _ (o_tys_get rfl)).2
  have h1 : 1 ≤ R.frames := by have := X.2.2.2.2.2.2.2.2.2.1; omega
  have h2 : ((st.map (o_rV ad)).map fun v => v.category).sum + 14 ≤ R.locals := by have := X.2.2.2.2.2.2.2.2.2.2; rw [o_cats]; omega
  refine va_clone (D := Z.2.1) (cl := o_cl) (tys := o_tys Z) X.1 X.2.1 (X.2.2.2.2.1.trans L.1.symm) X.2.2.1 (X.2.2.2.1 _ hw) (X.2.2.2.1 _ hw1) (X.2.2.2.1 _ hw2) (X.2.2.2.1 _ hw3) (X.2.2.2.1 _ hw4) E.2.2.2.2.2.2.2.2 E.2.1 P.1 P.2 S E.1.2 b 3 (o_rW_get hb hh) (o_tys_get rfl) hnm (fun i v hv => ?_) h1 h2 (by omega) (by show slots + len ≤ _; omega) hd (fun q H1 hK2 hP hD hS => ?_)
  · have hv : (arrV (Z.2.2.1 3) len (fun j => Value.int (o_I (f j)))).slots[i]? = some v := hv
    by_cases hi : i < len
    · rw [arrV_read _ _ hi] at hv
      cases hv
      have := hfit i hi
      exact o_fb _ this.1 this.2
    · rw [Array.getElem?_eq_none (by rw [arrV_size]; omega)] at hv
      cases hv
  · obtain ⟨ad', had⟩ : ∃ ad' : Nat → Nat, ad' = fun k => if k = n then q else ad k := ⟨_, rfl⟩
    have e1 : ∀ k, k ≠ n → ad' k = ad k := fun k hk => by rw [had]; exact if_neg hk
    have e2 : ad' n = q := by rw [had]; exact if_pos rfl
    have hag : o_ag al ad ad' := fun k hk => e1 k (fun z => hk (by rw [z]; exact hal))
    have w1 : ls.map (fun q => (q.1, o_rV ad' q.2)) = ls.map (fun q => (q.1, o_rV ad q.2)) := List.map_congr_left fun q hq => by rw [o_rV_n e1 (hfr.1 q hq)]
    have w2 : st.map (o_rV ad') = st.map (o_rV ad) := List.map_congr_left fun v hv => o_rV_n e1 (hfr.2 v hv)
    have w3 := o_rW_app (cy := Z.2.2.1) (c := .inl (3, len, .inl (fun j => o_I (f j)))) hnr e1 e2 (e0 := .inl (Z.2.2.1 3, (len, .inl (fun j => o_I (f j))))) rfl
    have hP9 : va_P Z.2.1 o_cl (o_rW ad Z.2.2.1 n h ++ [(q, .inl (Z.2.2.1 3, (len, .inl (fun j => o_I (f j)))))]) H1 := hP
    have hD9 : va_D (o_A Z) (o_rW ad Z.2.2.1 n h ++ [(q, .inl (Z.2.2.1 3, (len, .inl (fun j => o_I (f j)))))]) := hD
    rw [w3] at hP9 hD9
    have k9 := k Z p e R s m args below meth c ad' H1 locs (cells + 1) (slots + len) MC MS la Q X (E.ad (fun k hk => e1 k (by omega))) hS ⟨hP9, hD9⟩ (by omega) (by omega) a3 a4 (by rw [w1]; exact L)
      ⟨fun v n1 h1 ad1 H1 locs1 c1 s1 pc1 la1 q1 q2 => K.1 v n1 h1 ad1 H1 locs1 c1 s1 pc1 la1 q1 (o_ag.tr hag q2 (fun _ z => z)),
        fun E1 q9 ce n1 h1 ad1 H1 locs1 c1 s1 pc1 la1 rest1 q1 q2 => K.2 E1 q9 ce n1 h1 ad1 H1 locs1 c1 s1 pc1 la1 rest1 q1 (o_ag.tr hag q2 (fun _ z => z))⟩
    rw [List.map_cons, w2, show o_rV ad' (.ref n) = .ref q from congrArg Value.ref e2] at k9
    exact k9
/-- a method that is overridden in the receiver's class, without arguments -/
theorem o_cOv {x y : MethodName} {owner : String} {yb b0 : ByteArray} {yL dy index b m0 : Nat} {yr r0 : Option FieldType} (C : String) {rest : List Value} {v : Option Value}
    (hC : o_Ct l y (.code y yb yL yr) dy o_no [.ref b] n h 0 0 (o_is v n h)) (hd : decode M.2.1 pc = .ok (.invokevirtual index, 3)) (hT : ∀ w ∈ va_wsO M.1 index C owner x y [], w ∈ o_gW) (hco : Cond.code y yb yL yr ∈ o_gW) (h0 : Cond.code ⟨owner, x.name, x.desc⟩ b0 m0 r0 ∈ o_gW) (hyd : owner ≠ "java/lang/invoke/MethodHandle" ∧ owner ≠ "java/lang/invoke/VarHandle" ∧ (parseMethodDescriptor x.desc).map (fun d => d.parameters.length) = some 0) (hyL : yL ≤ 21)
    (hdy : dy < d) (hrec : o_rec C b n h) (hst : st = .ref b :: rest) (hcat : (rest.map fun v => v.category).sum ≤ 8)
    (k : o_V l M d al post (pc + 3) ls (v.toList ++ rest) n h mc ms) : o_V l M d al post pc ls st n h mc ms := by
  intro Z p e R s m args below meth c ad H locs cells slots MC MS la Q X E S P a1 a2 a3 a4 L K
  obtain ⟨hx, hbb, hown, hts, hml, hr, hlk, htab, hst9, hfr9, hlo9⟩ := id X
  have hf1 : (o_rm dy 0 0).frames + 1 ≤ R.frames := by show dy + 8 + 1 ≤ _; omega
  have hf2 : 8 + (yL + 11) + (o_rm dy 0 0).locals ≤ R.locals := by show 8 + (yL + 11) + (40 * dy + 160) ≤ _; omega
  have cb : va_CU R s args M.1 C owner index x y yb yL yr (.code y yb yL yr :: o_gW) (o_rm dy 0 0) 0 0 0 := va_cwO (ws' := o_gW) (Ts := o_gW) 0 hts (fun w hw => (List.mem_append.mp hw).elim (fun q => o_gIn (ws := va_wsO M.1 index C owner x y []) hT w (by unfold va_wsO; exact List.mem_append_left _ q)) (fun q => o_gCode hco w q)) rfl rfl rfl h0 hyd ⟨hf1, hf2⟩
  have hrun := vx_runU (l := l) (e := e) (below := below) (meth := meth) (locs := locs) (cells := cells) (slots := slots) (H := H) (b := ad b) (As := []) (rest := rest.map (o_rV ad)) (C := C) (Ts := o_gW) (nL := M.2.2.1) ⟨hx, hbb, hml, hown, hts⟩ (hC Z ad) cb
    ⟨o_Pc.blind, hrec Z ad s H locs E S P, (o_preS (As := [.ref b]) E S P).2⟩ (g := F0 m pc la (st.map (o_rV ad))) rfl rfl L.1 (by rw [hst]; simp [o_rV]) (by have := lv_room (m := m) (pc := pc) (ls := la) (rest := st.map (o_rV ad)) (st := rest.map (o_rV ad)) (by rw [o_cats]; exact hcat); exact this) hd ⟨by omega, by omega⟩
  exact o_back (dy := dy) X E S a1 a2 a3 a4 L K (Nat.zero_le _) (Nat.zero_le _) (fun _ z => z.elim) (fun _ z => z.elim) (Or.inl fun _ z => z) hrun (fun v' n' h9 q => by obtain ⟨q1, rfl, rfl⟩ := q; cases q1; exact k) (fun E n' h9 q => by cases q.1)
theorem o_castB {b i : Nat} {x : vp_A} (hd : decode M.2.1 pc = .ok (.checkcast i, 3)) (hw : Cond.classLink M.1 i "[B" ∈ o_gW) (hb : b < n) (hh : h b = .inl (3, x)) (k : o_V l M d al post (pc + 3) ls (.ref b :: st) n h mc ms) : o_V l M d al post pc ls (.ref b :: st) n h mc ms := by
  intro Z p e R s m args below meth c ad H locs cells slots MC MS la Q X E S P a1 a2 a3 a4 L K
  exact va_castA (D := Z.2.1) (cl := o_cl) X.1 X.2.1 X.2.2.1 (X.2.2.2.1 _ hw) P.1 b (o_rW_get hb hh) (E.2.1.2 3 _ (o_tys_get rfl)).2 hd (k Z p e R s m args below meth c ad H locs cells slots MC MS la Q X E S P a1 a2 a3 a4 L K)
end SC
theorem o_refs2 {n : Nat} {ls : List (Nat × Value)} {st : List Value} (h1 : ∀ q ∈ ls, ∀ k : Nat, q.2 = .ref k → k ≠ n) (h2 : ∀ v ∈ st, ∀ k : Nat, v = .ref k → k ≠ n) : o_refs n ls st := ⟨h1, h2⟩
set_option maxRecDepth 100000 in
set_option maxHeartbeats 4000000 in
/-- checkLength(0, k) -/
theorem cg_checkLength {l : Launch} (hl : l.stackTraces = false) (d : Nat) (n : Nat) (h : Nat → o_C) (k : Int) (hk : 0 ≤ k ∧ k ≤ 1000) : o_Ct l yJ7_checkLength_df160 wJ7_checkLength_df160 (d + 1) o_no [.int (o_I 0), .int (o_I k)] n h 0 0 (o_is none n h) := by
  refine o_Ct.ofV hl mJ7_checkLength_df160 (by decide +kernel) rfl rfl rfl (Nat.le_of_ble_eq_true rfl) ?_
  refine o_iload_n dJ7_checkLength_df160_0 rfl ?_
  refine o_iload_n dJ7_checkLength_df160_1 rfl ?_
  refine o_icmp_ge (tgt := 37) dJ7_checkLength_df160_2 (by decide) ⟨by omega, by omega⟩ ⟨by omega, by omega⟩ (fun c_2 => ?_) (fun c_2 => absurd (by omega) c_2)
  refine o_ret0 dJ7_checkLength_df160_37 trivial ?_
  exact ⟨rfl, rfl, rfl⟩
set_option maxRecDepth 100000 in
set_option maxHeartbeats 4000000 in
/-- copyOfRangeByte(bytes, 0, k) -/
theorem cg_copyByte {l : Launch} (hl : l.stackTraces = false) (d : Nat) (n : Nat) (h : Nat → o_C) (hok : o_ok n h) (hn : n < 999990) (q c9 : Nat) (f : Nat → Int) (hq : q < n) (hh : h q = .inl (3, c9, .inl (fun j => o_I (f j)))) (hf : ∀ j, j < c9 → 0 ≤ f j ∧ f j < 128) (hc9 : c9 ≤ 220) (k : Nat) (hk : k ≤ c9) : o_Ct l yJ7_copyOfRangeByte_39247 wJ7_copyOfRangeByte_39247 (d + 2) (fun k => k = n) [.ref q, .int (o_I 0), .int (o_I (k : Int))] n h 1 220 ((fun o n' h' => o = .inl (some (.ref n)) ∧ n' = n + 1 ∧ ∃ f' : Nat → Int, (∀ j, j < k → f' j = f j) ∧ h' = o_up h n (.inl (3, k, .inl (fun j => o_I (f' j)))))) := by
  refine o_Ct.ofV hl mJ7_copyOfRangeByte_39247 (by decide +kernel) rfl rfl rfl (Nat.le_of_ble_eq_true rfl) ?_
  have hqn : q ≠ n := by omega
  refine o_iload_n dJ7_copyOfRangeByte_39247_0 rfl ?_
  refine o_iload_n dJ7_copyOfRangeByte_39247_1 rfl ?_
  refine o_cS _ (cg_checkLength hl d n h (k : Int) ⟨by omega, by omega⟩) dJ7_copyOfRangeByte_39247_2 ml_J7_343 ys_J7_checkLength_df160 rfl (by decide) (by omega) rfl (Nat.le_of_ble_eq_true rfl) ?_
  refine o_iload_n dJ7_copyOfRangeByte_39247_5 rfl ?_
  refine o_iload_n dJ7_copyOfRangeByte_39247_6 rfl ?_
  refine o_isub dJ7_copyOfRangeByte_39247_7 ?_
  rw [show ((k : Int) - 0) = (k : Int) by omega]
  refine o_istore_n dJ7_copyOfRangeByte_39247_8 (by decide) ?_
  refine o_iload_n dJ7_copyOfRangeByte_39247_9 rfl ?_
  refine o_loc [(0, .ref q), (1, .int (o_I 0)), (2, .int (o_I (k : Int))), (3, .int (o_I (k : Int)))] rfl ?_
  refine o_newaB (N := k) (t := 3) (x := (k, .inl (fun _ => o_I 0))) (hok.nr (by omega)) (by omega) rfl dJ7_copyOfRangeByte_39247_10 rfl rfl (o_gT (i := 306) (by decide +kernel) rfl) (fun _ => rfl) (fun _ => rfl) (by omega) (o_refs2 (fun x hx k hk => ?_) (fun x hx => by cases hx)) (by omega) (by omega) ?_
  · simp only [List.mem_cons, List.not_mem_nil, or_false] at hx
    rcases hx with rfl | rfl | rfl | rfl
    · cases hk; exact hqn
    · cases hk
    · cases hk
    · cases hk
  have eq9 : ∀ c : o_C, o_up h n c q = .inl (3, c9, .inl (fun j => o_I (f j))) := fun c => by unfold o_up; rw [if_neg hqn]; exact hh
  have en9 : ∀ c : o_C, o_up h n c n = c := fun c => by unfold o_up; rw [if_pos rfl]
  refine o_astore dJ7_copyOfRangeByte_39247_12 (by decide) ?_
  refine o_aload_n dJ7_copyOfRangeByte_39247_14 rfl ?_
  refine o_iload_n dJ7_copyOfRangeByte_39247_15 rfl ?_
  refine o_aload dJ7_copyOfRangeByte_39247_16 rfl ?_
  refine o_iconst dJ7_copyOfRangeByte_39247_18 ?_
  refine o_aload_n dJ7_copyOfRangeByte_39247_19 rfl ?_
  refine o_alenN dJ7_copyOfRangeByte_39247_20 (by omega) (eq9 _) rfl ?_
  refine o_iload_n dJ7_copyOfRangeByte_39247_21 rfl ?_
  refine o_isub dJ7_copyOfRangeByte_39247_22 ?_
  rw [show ((c9 : Int) - 0) = (c9 : Int) by omega]
  refine o_iload_n dJ7_copyOfRangeByte_39247_23 rfl ?_
  refine o_mmin dJ7_copyOfRangeByte_39247_24 ml_J7_304 o_minS.1 o_minS.2.1 o_minS.2.2 ⟨by omega, by omega⟩ ⟨by omega, by omega⟩ (Nat.le_of_ble_eq_true rfl) ?_
  rw [show min (c9 : Int) (k : Int) = (k : Int) by omega]
  refine o_copyb (sp := 0) (dp := 0) (m0 := (k : Int)) dJ7_copyOfRangeByte_39247_27 (o_gT (i := 1128) (by decide +kernel) rfl) (o_gT (i := 1130) (by decide +kernel) rfl) (o_gT (i := 1129) (by decide +kernel) rfl) (o_gT (i := 30) (by decide +kernel) rfl) (by omega) (by omega) (eq9 _) (en9 _) (by omega) (by omega) (by omega) (by omega) (by omega) (by omega) (by omega) (fun i hi => by
    have e : (0 : Int).toNat + i = i := Nat.zero_add i
    rw [e]
    exact hf i (by omega)) (Nat.le_of_ble_eq_true rfl) rfl ?_
  refine o_aload dJ7_copyOfRangeByte_39247_30 rfl ?_
  refine o_ret1 dJ7_copyOfRangeByte_39247_32 (Or.inr ⟨_, rfl⟩) ?_
  refine ⟨rfl, rfl, va_cpy f (fun _ => 0) 0 0 k, fun j hj => ?_, ?_⟩
  · unfold va_cpy
    rw [if_pos ⟨by omega, by omega⟩, show 0 + (j - 0) = j by omega]
  · funext x
    unfold o_up
    by_cases z : x = n
    · rw [if_pos z, if_pos z]; rw [Int.toNat_natCast]; rfl
    · rw [if_neg z, if_neg z, if_neg z]
set_option maxRecDepth 100000 in
set_option maxHeartbeats 4000000 in
/-- copyOfRange(bytes, 0, k) -/
theorem cg_copyRange {l : Launch} (hl : l.stackTraces = false) (d : Nat) (n : Nat) (h : Nat → o_C) (hok : o_ok n h) (hn : n < 999990) (q c9 : Nat) (f : Nat → Int) (hq : q < n) (hh : h q = .inl (3, c9, .inl (fun j => o_I (f j)))) (hf : ∀ j, j < c9 → 0 ≤ f j ∧ f j < 128) (hc9 : c9 ≤ 220) (k : Nat) (hk : k ≤ c9) : o_Ct l yJ7_copyOfRange_39247 wJ7_copyOfRange_39247 (d + 3) (fun k => k = n) [.ref q, .int (o_I 0), .int (o_I (k : Int))] n h 1 220 ((fun o n' h' => o = .inl (some (.ref n)) ∧ n' = n + 1 ∧ ∃ f' : Nat → Int, (∀ j, j < k → f' j = f j) ∧ h' = o_up h n (.inl (3, k, .inl (fun j => o_I (f' j)))))) := by
  refine o_Ct.ofV hl mJ7_copyOfRange_39247 (by decide +kernel) rfl rfl rfl (Nat.le_of_ble_eq_true rfl) ?_
  have hqn : q ≠ n := by omega
  refine o_loc [(0, .ref q), (1, .int (o_I 0)), (2, .int (o_I (k : Int)))] rfl ?_
  have hrf : o_refs n [(0, .ref q), (1, .int (o_I 0)), (2, .int (o_I (k : Int)))] [] := o_refs2 (fun x hx k hk => by
    simp only [List.mem_cons, List.not_mem_nil, or_false] at hx
    rcases hx with rfl | rfl | rfl
    · cases hk; exact hqn
    · cases hk
    · cases hk) (fun x hx => by cases hx)
  refine o_iload_n dJ7_copyOfRange_39247_0 rfl ?_
  refine o_if_ne (tgt := 10) dJ7_copyOfRange_39247_1 (by decide) ⟨by omega, by omega⟩ (fun c_1 => absurd rfl c_1) (fun c_1 => ?_)
  refine o_iload_n dJ7_copyOfRange_39247_4 rfl ?_
  refine o_aload_n dJ7_copyOfRange_39247_5 rfl ?_
  refine o_alenN dJ7_copyOfRange_39247_6 hq hh rfl ?_
  refine o_icmp_eq (tgt := 17) dJ7_copyOfRange_39247_7 (by decide) ⟨by omega, by omega⟩ ⟨by omega, by omega⟩ (fun c_7 => ?_) (fun c_7 => ?_)
  · have ek : k = c9 := by omega
    refine o_aload_n dJ7_copyOfRange_39247_17 rfl ?_
    refine o_clone (hok.nr (by omega)) (by omega) rfl dJ7_copyOfRange_39247_18 (o_gT (i := 1120) (by decide +kernel) rfl) (o_gT (i := 1121) (by decide +kernel) rfl) (o_gT (i := 1122) (by decide +kernel) rfl) (o_gT (i := 1123) (by decide +kernel) rfl) (o_gT (i := 1124) (by decide +kernel) rfl) hq hh hf hrf (Nat.le_of_ble_eq_true rfl) (by omega) (by omega) ?_
    refine o_castB dJ7_copyOfRange_39247_21 (o_gT (i := 1126) (by decide +kernel) rfl) (by omega) (by show o_up _ _ _ _ = _; unfold o_up; exact if_pos rfl) ?_
    refine o_ret1 dJ7_copyOfRange_39247_24 (Or.inr ⟨_, rfl⟩) ?_
    exact ⟨rfl, rfl, f, fun j _ => rfl, by rw [ek]⟩
  · refine o_aload_n dJ7_copyOfRange_39247_10 rfl ?_
    refine o_iload_n dJ7_copyOfRange_39247_11 rfl ?_
    refine o_iload_n dJ7_copyOfRange_39247_12 rfl ?_
    refine o_callS (aly := fun k => k = n) [.ref q, .int (o_I 0), .int (o_I (k : Int))] (rest := []) (cg_copyByte hl d n h hok hn q c9 f hq hh hf hc9 k hk) dJ7_copyOfRange_39247_13 ml_J7_339 ys_J7_copyOfRangeByte_39247 rfl (by decide) (by omega) (Nat.le_refl _) (Nat.le_refl _) rfl (Nat.le_of_ble_eq_true rfl) (fun _ z => z) (fun k z => by omega) (Or.inr ⟨fun x hx k hk z => hrf.1 x hx k hk z, fun v hv => by cases hv⟩) (fun v9 n9 h9 q9 => ?_) (fun E n9 h9 q9 => by cases q9.1)
    obtain ⟨w1, rfl, f', hf', rfl⟩ := q9
    cases w1
    refine o_ret1 dJ7_copyOfRange_39247_16 (Or.inr ⟨_, rfl⟩) ?_
    exact ⟨rfl, rfl, f', hf', rfl⟩
set_option maxRecDepth 100000 in
set_option maxHeartbeats 4000000 in
/-- getValue() -/
theorem cg_getValue {l : Launch} (hl : l.stackTraces = false) (d : Nat) (n : Nat) (h : Nat → o_C) (b : Nat) (g : Nat → Nat → Int) (hb : b + 1 < n) (h0 : h b = sbC0 b g) : o_Ct l yJ5_getValue_6d5f1 wJ5_getValue_6d5f1 (d + 1) o_no [.ref b] n h 0 0 (o_is (some (.ref (b + 1))) n h) := by
  refine o_Ct.ofV hl mJ5_getValue_6d5f1 (by decide +kernel) rfl rfl rfl (Nat.le_of_ble_eq_true rfl) ?_
  refine o_aload_n dJ5_getValue_6d5f1_0 rfl ?_
  refine o_gf dJ5_getValue_6d5f1_1 fl_J5_15 h0 (by omega) rfl ?_
  refine o_ret1 dJ5_getValue_6d5f1_4 (Or.inr ⟨_, rfl⟩) ?_
  exact ⟨rfl, rfl, rfl⟩
set_option maxRecDepth 100000 in
set_option maxHeartbeats 4000000 in
/-- length() -/
theorem cg_length5 {l : Launch} (hl : l.stackTraces = false) (d : Nat) (n : Nat) (h : Nat → o_C) (b : Nat) (g : Nat → Nat → Int) (hb : b + 1 < n) (h0 : h b = sbC0 b g) : o_Ct l yJ5_length_8abf5 wJ5_length_8abf5 (d + 1) o_no [.ref b] n h 0 0 (o_is (some (.int (o_I (g 0 3)))) n h) := by
  refine o_Ct.ofV hl mJ5_length_8abf5 (by decide +kernel) rfl rfl rfl (Nat.le_of_ble_eq_true rfl) ?_
  refine o_aload_n dJ5_length_8abf5_0 rfl ?_
  refine o_gf dJ5_length_8abf5_1 fl_J5_79 h0 (by omega) rfl ?_
  refine o_ret1 dJ5_length_8abf5_4 trivial ?_
  exact ⟨rfl, rfl, rfl⟩
set_option maxRecDepth 100000 in
set_option maxHeartbeats 4000000 in
/-- length() -/
theorem cg_length4 {l : Launch} (hl : l.stackTraces = false) (d : Nat) (n : Nat) (h : Nat → o_C) (b : Nat) (g : Nat → Nat → Int) (hb : b + 1 < n) (h0 : h b = sbC0 b g) : o_Ct l yJ4_length_8abf5 wJ4_length_8abf5 (d + 2) o_no [.ref b] n h 0 0 (o_is (some (.int (o_I (g 0 3)))) n h) := by
  refine o_Ct.ofV hl mJ4_length_8abf5 (by decide +kernel) rfl rfl rfl (Nat.le_of_ble_eq_true rfl) ?_
  refine o_aload_n dJ4_length_8abf5_0 rfl ?_
  refine o_cSU [] (cg_length5 hl d n h b g hb h0) dJ4_length_8abf5_1 (List.forall_mem_cons.mpr ⟨(o_gT (i := 1256) (by decide +kernel) rfl), List.forall_mem_cons.mpr ⟨(o_gT (i := 1252) (by decide +kernel) rfl), List.forall_mem_cons.mpr ⟨(o_gT (i := 305) (by decide +kernel) rfl), List.forall_mem_cons.mpr ⟨(o_gT (i := 1251) (by decide +kernel) rfl), List.forall_mem_cons.mpr ⟨(o_gT (i := 13) (by decide +kernel) rfl), fun _ h => absurd h List.not_mem_nil⟩⟩⟩⟩⟩) (o_gT (i := 1257) (by decide +kernel) rfl) ⟨by decide, by decide⟩ (by decide) (by omega) (by omega) h0 rfl rfl (Nat.le_of_ble_eq_true rfl) ?_
  refine o_ret1 dJ4_length_8abf5_4 trivial ?_
  exact ⟨rfl, rfl, rfl⟩
set_option maxRecDepth 100000 in
set_option maxHeartbeats 4000000 in
/-- isLatin1() -/
theorem cg_isLatin5 {l : Launch} (hl : l.stackTraces = false) (d : Nat) (n : Nat) (h : Nat → o_C) (b : Nat) (g : Nat → Nat → Int) (hb : b + 1 < n) (h0 : h b = sbC0 b g) (hg1 : g 0 1 = 0) : o_Ct l yJ5_isLatin1_aae02 wJ5_isLatin1_aae02 (d + 1) o_no [.ref b] n h 0 0 (o_is (some (.int (o_I 1))) n h) := by
  refine o_Ct.ofV hl mJ5_isLatin1_aae02 (by decide +kernel) rfl rfl rfl (Nat.le_of_ble_eq_true rfl) ?_
  refine o_gs dJ5_isLatin1_aae02_0 (o_gT (i := 283) (by decide +kernel) rfl) z_C ?_
  refine o_if_eq (tgt := 17) dJ5_isLatin1_aae02_3 (by decide) ⟨by omega, by omega⟩ (fun c_3 => absurd c_3 (by omega)) (fun c_3 => ?_)
  refine o_aload_n dJ5_isLatin1_aae02_6 rfl ?_
  refine o_gf dJ5_isLatin1_aae02_7 fl_J5_22 h0 (by omega) rfl ?_
  rw [hg1]
  refine o_if_ne (tgt := 17) dJ5_isLatin1_aae02_10 (by decide) ⟨by omega, by omega⟩ (fun c_10 => absurd rfl c_10) (fun c_10 => ?_)
  refine o_iconst dJ5_isLatin1_aae02_13 ?_
  refine o_goto (tgt := 18) dJ5_isLatin1_aae02_14 (by decide) ?_
  refine o_ret1 dJ5_isLatin1_aae02_18 o_rb1 ?_
  exact ⟨rfl, rfl, rfl⟩
theorem yW_getv : o_yW RJ4 yJ5_getValue_6d5f1 wJ5_getValue_6d5f1 := ⟨(o_gT (i := 1246) (by decide +kernel) rfl), (o_gT (i := 1248) (by decide +kernel) rfl), (o_gT (i := 13) (by decide +kernel) rfl), (o_gT (i := 1249) (by decide +kernel) rfl)⟩
set_option maxRecDepth 100000 in
set_option maxHeartbeats 4000000 in
/-- new String(builder, null) -/
theorem cg_init2 {l : Launch} (hl : l.stackTraces = false) (d : Nat) (n : Nat) (h : Nat → o_C) (hok : o_ok n h) (hn : n < 999990) (b : Nat) (g : Nat → Nat → Int) (L : List Int) (hsb : s9_sb g L) (hb : b + 1 < n) (h0 : h b = sbC0 b g) (h1 : h (b + 1) = sbC1 g) (s : Nat) (hs : s < n) (hsb2 : s ≠ b ∧ s ≠ b + 1) (hs0 : h s = .inr (10, [.null, .int (o_I 0), .int (o_I 0), .int (o_I 0)])) : o_Ct l yJ0_init_db425 wJ0_init_db425 (d + 4) (fun k => k = n) [.ref s, .ref b, .null] n h 1 220 ((fun o n' h' => o = .inl none ∧ n' = n + 1 ∧ ∃ f : Nat → Int, (∀ j, j < L.length → f j = L.getD j 0) ∧ h' = o_up (o_up h s (.inr (10, [.ref n, .int (o_I 0), .int (o_I 0), .int (o_I 0)]))) n (.inl (3, L.length, .inl (fun j => o_I (f j)))))) := by
  refine o_Ct.ofV hl mJ0_init_db425 (by decide +kernel) rfl rfl rfl (Nat.le_of_ble_eq_true rfl) ?_
  obtain ⟨hg1, ⟨c9, hc9, hc92, hc93, hc94⟩, hg3, hg4⟩ := id hsb
  refine o_aload_n dJ0_init_db425_0 rfl ?_
  refine o_oi dJ0_init_db425_1 (o_gT (i := 1244) (by decide +kernel) rfl) (o_gT (i := 46) (by decide +kernel) rfl) (o_gT (i := 47) (by decide +kernel) rfl) (by decide) ?_
  refine o_aload_n dJ0_init_db425_4 rfl ?_
  refine o_cG RJ4 _ (cg_getValue hl d n h b g hb h0) dJ0_init_db425_5 ml_J0_552 yW_getv rfl (by decide) (by omega) (o_recW (by omega) h0 rfl) rfl (Nat.le_of_ble_eq_true rfl) ?_
  refine o_astore_n dJ0_init_db425_8 (by decide) ?_
  refine o_aload_n dJ0_init_db425_9 rfl ?_
  refine o_cOv (b0 := cJ5_length_8abf5) (m0 := 1) (r0 := some .int) (owner := "java/lang/AbstractStringBuilder") (x := yJ5_length_8abf5) RJ4 (cg_length4 hl d n h b g hb h0) dJ0_init_db425_10 (List.forall_mem_cons.mpr ⟨(o_gT (i := 1250) (by decide +kernel) rfl), List.forall_mem_cons.mpr ⟨(o_gT (i := 1252) (by decide +kernel) rfl), List.forall_mem_cons.mpr ⟨(o_gT (i := 1251) (by decide +kernel) rfl), List.forall_mem_cons.mpr ⟨(o_gT (i := 1253) (by decide +kernel) rfl), List.forall_mem_cons.mpr ⟨(o_gT (i := 1254) (by decide +kernel) rfl), List.forall_mem_cons.mpr ⟨(o_gT (i := 14) (by decide +kernel) rfl), fun _ h => absurd h List.not_mem_nil⟩⟩⟩⟩⟩⟩) (o_gT (i := 1255) (by decide +kernel) rfl) (o_gT (i := 1257) (by decide +kernel) rfl) (by decide) (by decide) (by omega) (o_recW (by omega) h0 rfl) rfl (Nat.le_of_ble_eq_true rfl) ?_
  rw [hg3]
  refine o_istore dJ0_init_db425_13 (by decide) ?_
  refine o_aload_n dJ0_init_db425_15 rfl ?_
  refine o_cG RJ4 _ (cg_isLatin5 hl d n h b g hb h0 hg1) dJ0_init_db425_16 ml_J0_1047 yW_isL rfl (by decide) (by omega) (o_recW (by omega) h0 rfl) rfl (Nat.le_of_ble_eq_true rfl) ?_
  refine o_if_eq (tgt := 41) dJ0_init_db425_19 (by decide) ⟨by omega, by omega⟩ (fun c_19 => absurd c_19 (by omega)) (fun c_19 => ?_)
  refine o_aload_n dJ0_init_db425_22 rfl ?_
  refine o_iconst dJ0_init_db425_23 ?_
  refine o_putF (ci := 10) (k9 := 1) (C := RJ0) (T := TJ0) (N := 4) dJ0_init_db425_24 hs hs0 rfl (by decide) (o_gT (i := 1290) (by decide +kernel) rfl) rfl rfl rfl (tyJ0_ok 1 (by decide)) (Nat.le_of_ble_eq_true rfl) (fun _ => (show narrow .byte (.int (o_I 0)) = .int (o_I 0) from by decide +kernel)) (fun _ => (show fits .byte (.int (o_I 0)) = true from by decide +kernel)) ?_
  have e0 : o_up h s (.inr (10, ([.null, .int (o_I 0), .int (o_I 0), .int (o_I 0)] : List Value).set 1 (.int (o_I 0)))) = h := by
    funext x
    unfold o_up
    by_cases z : x = s
    · rw [if_pos z, z, hs0]; rfl
    · rw [if_neg z]
  rw [e0]
  refine o_aload_n dJ0_init_db425_27 rfl ?_
  refine o_aload_n dJ0_init_db425_28 rfl ?_
  refine o_iconst dJ0_init_db425_29 ?_
  refine o_iload dJ0_init_db425_30 rfl ?_
  refine o_loc [(0, .ref s), (1, .ref b), (3, .ref (b + 1)), (4, .int (o_I (L.length : Int)))] rfl ?_
  refine o_callS (aly := fun k => k = n) [.ref (b + 1), .int (o_I 0), .int (o_I (L.length : Int))] (rest := [.ref s]) (cg_copyRange hl d n h hok hn (b + 1) c9 (g 1) hb (by rw [h1]; unfold sbC1; rw [hc9, Int.toNat_natCast]) hc94 hc92 L.length hc93) dJ0_init_db425_32 ml_J0_54 ys_J7_copyOfRange_39247 rfl (by decide) (by omega) (Nat.le_refl _) (Nat.le_refl _) rfl (Nat.le_of_ble_eq_true rfl) (fun _ z => z) (fun k z => by omega) (Or.inr ⟨fun x hx k hk z => ?_, fun v hv k hk z => ?_⟩) (fun v9 n9 h9 q9 => ?_) (fun E n9 h9 q9 => by cases q9.1)
  · simp only [List.mem_cons, List.not_mem_nil, or_false] at hx
    rcases hx with rfl | rfl | rfl | rfl
    · cases hk; omega
    · cases hk; omega
    · cases hk; omega
    · cases hk
  · rcases List.mem_singleton.mp hv with rfl
    cases hk
    omega
  obtain ⟨w1, rfl, f, hf, rfl⟩ := q9
  cases w1
  have hsn : s ≠ n := by omega
  refine o_putF (ci := 10) (k9 := 0) (C := RJ0) (T := TJ0) (N := 4) dJ0_init_db425_35 (by omega) (show o_up _ _ _ s = _ by unfold o_up; rw [if_neg hsn]; exact hs0) rfl (by decide) (o_gT (i := 1289) (by decide +kernel) rfl) rfl rfl rfl (tyJ0_ok 0 (by decide)) (Nat.le_of_ble_eq_true rfl) (fun _ => rfl) (fun _ => rfl) ?_
  refine o_goto (tgt := 97) dJ0_init_db425_38 (by decide) ?_
  refine o_ret0 dJ0_init_db425_97 trivial ?_
  refine ⟨rfl, rfl, f, fun j hj => (hf j hj).trans (hg4 j hj), ?_⟩
  funext x
  unfold o_up
  by_cases z : x = s
  · subst z
    rw [if_pos rfl, if_neg hsn, if_pos rfl]
    rfl
  · rw [if_neg z]
    by_cases w : x = n
    · rw [if_pos w, if_pos w]
    · rw [if_neg w, if_neg w, if_neg z]
set_option maxRecDepth 100000 in
set_option maxHeartbeats 4000000 in
/-- new String(builder) -/
theorem cg_init1 {l : Launch} (hl : l.stackTraces = false) (d : Nat) (n : Nat) (h : Nat → o_C) (hok : o_ok n h) (hn : n < 999990) (b : Nat) (g : Nat → Nat → Int) (L : List Int) (hsb : s9_sb g L) (hb : b + 1 < n) (h0 : h b = sbC0 b g) (h1 : h (b + 1) = sbC1 g) (s : Nat) (hs : s < n) (hsb2 : s ≠ b ∧ s ≠ b + 1) (hs0 : h s = .inr (10, [.null, .int (o_I 0), .int (o_I 0), .int (o_I 0)])) : o_Ct l yJ0_init_81219 wJ0_init_81219 (d + 5) (fun k => k = n) [.ref s, .ref b] n h 1 220 ((fun o n' h' => o = .inl none ∧ n' = n + 1 ∧ ∃ f : Nat → Int, (∀ j, j < L.length → f j = L.getD j 0) ∧ h' = o_up (o_up h s (.inr (10, [.ref n, .int (o_I 0), .int (o_I 0), .int (o_I 0)]))) n (.inl (3, L.length, .inl (fun j => o_I (f j)))))) := by
  refine o_Ct.ofV hl mJ0_init_81219 (by decide +kernel) rfl rfl rfl (Nat.le_of_ble_eq_true rfl) ?_
  refine o_aload_n dJ0_init_81219_0 rfl ?_
  refine o_aload_n dJ0_init_81219_1 rfl ?_
  refine o_null dJ0_init_81219_2 ?_
  refine o_callI (aly := fun k => k = n) [.ref b, .null] (rest := []) (cg_init2 hl d n h hok hn b g L hsb hb h0 h1 s hs hsb2 hs0) dJ0_init_81219_3 ml_J0_489 yi_J0_init_db425 rfl rfl (by decide) (by omega) (Nat.le_refl _) (Nat.le_refl _) rfl (Nat.le_of_ble_eq_true rfl) (fun _ z => z) (fun k z => by omega) (Or.inr ⟨fun x hx k hk z => ?_, fun v hv => by cases hv⟩) (fun v9 n9 h9 q9 => ?_) (fun E n9 h9 q9 => by cases q9.1)
  · simp only [lv_args, List.mem_cons, List.not_mem_nil, or_false] at hx
    rcases hx with rfl | rfl
    · cases hk; omega
    · cases hk; omega
  obtain ⟨w1, rfl, f, hf, rfl⟩ := q9
  cases w1
  refine o_ret0 dJ0_init_81219_6 trivial ?_
  exact ⟨rfl, rfl, f, hf, rfl⟩
set_option maxRecDepth 100000 in
set_option maxHeartbeats 4000000 in
/-- toString() -/
theorem cg_toString {l : Launch} (hl : l.stackTraces = false) (d : Nat) (n : Nat) (h : Nat → o_C) (hok : o_ok n h) (hn : n < 999980) (b : Nat) (g : Nat → Nat → Int) (L : List Int) (hsb : s9_sb g L) (hb : b + 1 < n) (h0 : h b = sbC0 b g) (h1 : h (b + 1) = sbC1 g) : o_Ct l yJ4_toString_0e30d wJ4_toString_0e30d (d + 6) (fun k => k = n ∨ k = n + 1) [.ref b] n h 2 224 ((fun o n' h' => o = .inl (some (.ref n)) ∧ n' = n + 2 ∧ ∃ f : Nat → Int, (∀ j, j < L.length → f j = L.getD j 0) ∧ h' = o_up (o_up h n (.inr (10, [.ref (n + 1), .int (o_I 0), .int (o_I 0), .int (o_I 0)]))) (n + 1) (.inl (3, L.length, .inl (fun j => o_I (f j)))))) := by
  refine o_Ct.ofV hl mJ4_toString_0e30d (by decide +kernel) rfl rfl rfl (Nat.le_of_ble_eq_true rfl) ?_
  refine o_loc [(0, .ref b)] rfl ?_
  have hc0 : o_okC (n + 1) (.inr (10, [.null, .int (o_I 0), .int (o_I 0), .int (o_I 0)])) := fun v hv r hr => by
    simp only [List.mem_cons, List.not_mem_nil, or_false] at hv
    rcases hv with rfl | rfl | rfl | rfl <;> cases hr
  have ok1 := hok.app hc0
  have hbn : b ≠ n := by omega
  have hbn1 : b + 1 ≠ n := by omega
  refine o_new (ci := 10) (N := 4) (C := RJ0) (T := TJ0) (fs := [.null, .int (o_I 0), .int (o_I 0), .int (o_I 0)]) (ty := tyJ0) hok (by omega) (Or.inl rfl) dJ4_toString_0e30d_0 (o_gT (i := 1237) (by decide +kernel) rfl) (o_gT (i := 572) (by decide +kernel) rfl) (o_gT (i := 15) (by decide +kernel) rfl) rfl tyJ0_ok (fun j hj => by
    rcases (show j = 0 ∨ j = 1 ∨ j = 2 ∨ j = 3 by omega) with rfl | rfl | rfl | rfl <;> rfl) (fun v hv r => by
    simp only [List.mem_cons, List.not_mem_nil, or_false] at hv
    rcases hv with rfl | rfl | rfl | rfl <;> simp) (o_refs2 (fun x hx k hk => by rcases List.mem_singleton.mp hx with rfl; cases hk; exact hbn) (fun x hx => by cases hx)) (by omega) (by omega) (fun ok9 => ?_)
  refine o_dup dJ4_toString_0e30d_3 rfl ?_
  refine o_aload_n dJ4_toString_0e30d_4 rfl ?_
  refine o_callI (aly := fun k => k = n + 1) [.ref b] (rest := [.ref n]) (cg_init1 hl d (n + 1) _ ok1 (by omega) b g L hsb (by omega) (show o_up _ _ _ b = _ by unfold o_up; rw [if_neg hbn]; exact h0) (show o_up _ _ _ (b + 1) = _ by unfold o_up; rw [if_neg hbn1]; exact h1) n (by omega) ⟨by omega, by omega⟩ (show o_up _ _ _ n = _ by unfold o_up; exact if_pos rfl)) dJ4_toString_0e30d_5 ml_J4_137 yi_J0_init_81219 rfl rfl (by decide) (by omega) (by omega) (by omega) rfl (Nat.le_of_ble_eq_true rfl) (fun _ z => Or.inr z) (fun k z => by omega) (Or.inr ⟨fun x hx k hk z => ?_, fun v hv k hk z => ?_⟩) (fun v9 n9 h9 q9 => ?_) (fun E n9 h9 q9 => by cases q9.1)
  · rcases List.mem_singleton.mp hx with rfl
    cases hk; omega
  · rcases List.mem_singleton.mp hv with rfl
    cases hk; omega
  obtain ⟨w1, rfl, f, hf, rfl⟩ := q9
  cases w1
  refine o_ret1 dJ4_toString_0e30d_8 (Or.inr ⟨_, rfl⟩) ?_
  refine ⟨rfl, rfl, f, hf, ?_⟩
  funext x
  unfold o_up
  by_cases w : x = n + 1
  · rw [if_pos w, if_pos w]
  · rw [if_neg w, if_neg w]
    by_cases z : x = n
    · rw [if_pos z, if_pos z]
    · rw [if_neg z, if_neg z, if_neg z]
