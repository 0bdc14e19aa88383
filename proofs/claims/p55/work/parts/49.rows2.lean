/-! rows: constants, objects and arrays that are made, calls of constructors and of a class above -/
theorem o_neg (z : Int) : -(o_I z) = o_I (-z) := by
  first
    | exact (Int32.ofInt_neg z).symm
    | exact Int32.ofInt_neg.symm
    | (unfold o_I; simp)
/-- cells that only refer to cells below n, or to constants -/
def o_okC (n : Nat) : o_C → Prop
  | .inl a => match a.2.2 with
    | .inr (.inr (.inr (.inr f))) => ∀ j r : Nat, f j = some r → r < n ∨ 1000000 ≤ r
    | _ => True
  | .inr o => ∀ v ∈ o.2, ∀ r : Nat, v = .ref r → r < n ∨ 1000000 ≤ r
def o_ok (n : Nat) (h : Nat → o_C) : Prop := ∀ k, k < n → o_okC n (h k)
theorem o_okC.mono {n n' : Nat} (hn : n ≤ n') {c : o_C} (hc : o_okC n c) : o_okC n' c := by
  rcases c with ⟨t, len, f⟩ | ⟨ci, fs⟩
  · rcases f with f | f | f | f | f
    · exact trivial
    · exact trivial
    · exact trivial
    · exact trivial
    · exact fun j r hr => (hc j r hr).elim (fun q => Or.inl (Nat.lt_of_lt_of_le q hn)) Or.inr
  · exact fun v hv r hr => (hc v hv r hr).elim (fun q => Or.inl (Nat.lt_of_lt_of_le q hn)) Or.inr
theorem o_ok.up {n b : Nat} {h : Nat → o_C} {c : o_C} (h0 : o_ok n h) (hc : o_okC n c) : o_ok n (o_up h b c) := by
  intro k hk
  unfold o_up
  by_cases q : k = b
  · rw [if_pos q]; exact hc
  · rw [if_neg q]; exact h0 k hk
theorem o_ok.app {n : Nat} {h : Nat → o_C} {c : o_C} (h0 : o_ok n h) (hc : o_okC (n + 1) c) : o_ok (n + 1) (o_up h n c) := by
  intro k hk
  unfold o_up
  by_cases q : k = n
  · rw [if_pos q]; exact hc
  · rw [if_neg q]; exact (h0 k (by omega)).mono (Nat.le_succ n)
/-- cells that don't refer to n -/
def o_nrC (n : Nat) : o_C → Prop
  | .inl a => match a.2.2 with
    | .inr (.inr (.inr (.inr f))) => ∀ j r : Nat, f j = some r → r ≠ n
    | _ => True
  | .inr o => ∀ v ∈ o.2, ∀ r : Nat, v = .ref r → r ≠ n
theorem o_okC.nr {n : Nat} (hn : n < 1000000) {c : o_C} (hc : o_okC n c) : o_nrC n c := by
  rcases c with ⟨t, len, f⟩ | ⟨ci, fs⟩
  · rcases f with f | f | f | f | f
    · exact trivial
    · exact trivial
    · exact trivial
    · exact trivial
    · exact fun j r hr => by have := hc j r hr; omega
  · exact fun v hv r hr => by have := hc v hv r hr; omega
theorem o_ok.nr {n : Nat} (hn : n < 1000000) {h : Nat → o_C} (h0 : o_ok n h) : ∀ k, k < n → o_nrC n (h k) := fun k hk => (h0 k hk).nr hn
theorem o_rC_eq {n : Nat} {ad ad' : Nat → Nat} {cy : Nat → ClassId} {c : o_C} (hc : o_nrC n c) (e : ∀ k, k ≠ n → ad' k = ad k) : o_rC ad' cy c = o_rC ad cy c := by
  rcases c with ⟨t, len, f⟩ | ⟨ci, fs⟩
  · rcases f with f | f | f | f | f
    · rfl
    · rfl
    · rfl
    · rfl
    · have : (fun j => (f j).map ad') = fun j => (f j).map ad := by
        funext j
        cases hf : f j with
        | none => rfl
        | some r => exact congrArg some (e r (hc j r hf))
      show Sum.inl (cy t, len, Sum.inr (Sum.inr (Sum.inr (Sum.inr (fun j => (f j).map ad'))))) = Sum.inl (cy t, len, Sum.inr (Sum.inr (Sum.inr (Sum.inr (fun j => (f j).map ad)))))
      rw [this]
  · show Sum.inr (ci, fs.map (o_rV ad')) = Sum.inr (ci, fs.map (o_rV ad))
    congr 2
    refine List.map_congr_left fun v hv => ?_
    cases v with
    | ref r => exact congrArg Value.ref (e r (hc _ hv r rfl))
    | _ => rfl
theorem o_rW_app {n : Nat} {ad ad' : Nat → Nat} {cy : Nat → ClassId} {h : Nat → o_C} {c : o_C} {q : Nat} (h0 : ∀ k, k < n → o_nrC n (h k)) (e : ∀ k, k ≠ n → ad' k = ad k) (eq : ad' n = q) {e0 : va_E} (he : e0 = o_rC ad' cy c) : o_rW ad cy n h ++ [(q, e0)] = o_rW ad' cy (n + 1) (o_up h n c) := by
  subst he
  unfold o_rW
  rw [List.range_succ, List.map_append]
  congr 1
  · refine List.map_congr_left fun k hk => ?_
    have hk := List.mem_range.mp hk
    rw [e k (by omega), show o_up h n c k = h k by unfold o_up; rw [if_neg (by omega)], o_rC_eq (h0 k hk) e]
  · simp [o_up, eq]
def o_refs (n : Nat) (ls : List (Nat × Value)) (st : List Value) : Prop := (∀ q ∈ ls, ∀ k : Nat, q.2 = .ref k → k ≠ n) ∧ ∀ v ∈ st, ∀ k : Nat, v = .ref k → k ≠ n
theorem o_rV_n {n : Nat} {ad ad' : Nat → Nat} (e : ∀ k, k ≠ n → ad' k = ad k) {v : Value} (hv : ∀ k : Nat, v = .ref k → k ≠ n) : o_rV ad' v = o_rV ad v := by
  cases v with
  | ref k => exact congrArg Value.ref (e k (hv k rfl))
  | _ => rfl
section OQ
variable {l : Launch} {M : o_M} {d : Nat} {al : Nat → Prop} {post : o_P} {pc : Nat} {ls : List (Nat × Value)} {st : List Value} {n : Nat} {h : Nat → o_C} {mc ms : Nat}
theorem o_hcg {h' : Nat → o_C} (eh : ∀ k, k < n → h k = h' k) (k : o_V l M d al post pc ls st n h' mc ms) : o_V l M d al post pc ls st n h mc ms := by
  intro Z p e R s m args below meth c ad H locs cells slots MC MS la Q X E S P a1 a2 a3 a4 L K
  have e9 : o_rW ad Z.2.2.1 n h = o_rW ad Z.2.2.1 n h' := List.map_congr_left fun k hk => by rw [eh k (List.mem_range.mp hk)]
  exact k Z p e R s m args below meth c ad H locs cells slots MC MS la Q X E S (by unfold o_Rp; rw [← e9]; exact P) a1 a2 a3 a4 L K
theorem o_ineg {z : Int} (hd : decode M.2.1 pc = .ok (.ineg, 1)) (k : o_V l M d al post (pc + 1) ls (.int (o_I (-z)) :: st) n h mc ms) : o_V l M d al post pc ls (.int (o_I z) :: st) n h mc ms := by
  intro Z p e R s m args below meth c ad H locs cells slots MC MS la Q X E S P a1 a2 a3 a4 L K
  exact lv_ineg X.1 X.2.1 hd (by rw [o_neg]; exact k Z p e R s m args below meth c ad H locs cells slots MC MS la Q X E S P a1 a2 a3 a4 L K)
theorem o_ishl {x y : Int32} (hd : decode M.2.1 pc = .ok (.ishl, 1)) (k : o_V l M d al post (pc + 1) ls (.int (x <<< (y &&& 31)) :: st) n h mc ms) : o_V l M d al post pc ls (.int y :: .int x :: st) n h mc ms := by
  intro Z p e R s m args below meth c ad H locs cells slots MC MS la Q X E S P a1 a2 a3 a4 L K
  exact lv_ishl X.1 X.2.1 hd (k Z p e R s m args below meth c ad H locs cells slots MC MS la Q X E S P a1 a2 a3 a4 L K)
theorem o_ldcS {i num : Nat} {tx : String} (hd : decode M.2.1 pc = .ok (.ldc i, 2)) (hq : (M.1, i, tx, num) ∈ o_str) (k : o_V l M d al post (pc + 2) ls (.ref (2000000 + num) :: st) n h mc ms) : o_V l M d al post pc ls st n h mc ms := by
  intro Z p e R s m args below meth c ad H locs cells slots MC MS la Q X E S P a1 a2 a3 a4 L K
  exact va_ldcS X.1 X.2.1 X.2.2.1 (E.2.2.2.1 _ hq) hd (k Z p e R s m args below meth c ad H locs cells slots MC MS la Q X E S P a1 a2 a3 a4 L K)
theorem o_gs {C n9 d9 : String} {v : Value} {i : Nat} (hd : decode M.2.1 pc = .ok (.getstatic i, 3)) (hw : Cond.fieldLink M.1 i C n9 d9 ∈ o_gW) (hz : ∀ (Z : o_Z) (ad : Nat → Nat) (s : State), o_Ex Z ad s → va_Z C n9 d9 (o_rV ad v) (o_A Z) s s.heap) (k : o_V l M d al post (pc + 3) ls (v :: st) n h mc ms) : o_V l M d al post pc ls st n h mc ms := by
  intro Z p e R s m args below meth c ad H locs cells slots MC MS la Q X E S P a1 a2 a3 a4 L K
  exact va_gets X.1 X.2.1 (hz Z ad s E) S X.2.2.1 (X.2.2.2.1 _ hw) (fun _ q => q) hd (k Z p e R s m args below meth c ad H locs cells slots MC MS la Q X E S P a1 a2 a3 a4 L K)
theorem o_gsP {C n9 d9 : String} {q0 i : Nat} (hd : decode M.2.1 pc = .ok (.getstatic i, 3)) (hw : Cond.fieldLink M.1 i C n9 d9 ∈ o_gW) (hz : ∀ (Z : o_Z) (ad : Nat → Nat) (s : State), o_Ex Z ad s → va_Z C n9 d9 .null (o_A Z) s s.heap ∨ va_Z C n9 d9 (.ref (ad q0)) (o_A Z) s s.heap) (k1 : o_V l M d al post (pc + 3) ls (.null :: st) n h mc ms) (k2 : o_V l M d al post (pc + 3) ls (.ref q0 :: st) n h mc ms) : o_V l M d al post pc ls st n h mc ms := by
  intro Z p e R s m args below meth c ad H locs cells slots MC MS la Q X E S P a1 a2 a3 a4 L K
  rcases hz Z ad s E with q | q
  · exact va_gets X.1 X.2.1 q S X.2.2.1 (X.2.2.2.1 _ hw) (fun _ q => q) hd (k1 Z p e R s m args below meth c ad H locs cells slots MC MS la Q X E S P a1 a2 a3 a4 L K)
  · exact va_gets X.1 X.2.1 q S X.2.2.1 (X.2.2.2.1 _ hw) (fun _ q => q) hd (k2 Z p e R s m args below meth c ad H locs cells slots MC MS la Q X E S P a1 a2 a3 a4 L K)
theorem o_gsK (hM : M.1 = RX2) (hd : decode M.2.1 pc = .ok (.getstatic 75, 3)) (k : o_V l M d al post (pc + 3) ls (.ref 4000000 :: st) n h mc ms) : o_V l M d al post pc ls st n h mc ms := by
  intro Z p e R s m args below meth c ad H locs cells slots MC MS la Q X E S P a1 a2 a3 a4 L K
  exact va_getsN X.1 X.2.1 E.2.2.2.2.1.2.2.2.1 S X.2.2.1 (by rw [hM]; exact E.2.2.1.2.1.use rfl) (fun _ q => q) hd (k Z p e R s m args below meth c ad H locs cells slots MC MS la Q X E S P a1 a2 a3 a4 L K)
theorem o_gfC {o n9 d9 : String} {q i : Nat} {v : Value} (hd : decode M.2.1 pc = .ok (.getfield i, 3)) (hw : Cond.fieldLink M.1 i o n9 d9 ∈ o_gW) (hz : ∀ (Z : o_Z) (ad : Nat → Nat) (s : State), o_Ex Z ad s → va_OF o n9 d9 (o_rV ad v) (ad q) (o_A Z) s s.heap) (k : o_V l M d al post (pc + 3) ls (v :: st) n h mc ms) : o_V l M d al post pc ls (.ref q :: st) n h mc ms := by
  intro Z p e R s m args below meth c ad H locs cells slots MC MS la Q X E S P a1 a2 a3 a4 L K
  exact vk_getf X.1 X.2.1 (hz Z ad s E) S X.2.2.1 (X.2.2.2.1 _ hw) (fun _ q => q) hd (k Z p e R s m args below meth c ad H locs cells slots MC MS la Q X E S P a1 a2 a3 a4 L K)
theorem o_tbC {q N : Nat} {f : Nat → Value} {i : Int} {z : Int32} (hd : decode M.2.1 pc = .ok (.baload, 1)) (hz : ∀ (Z : o_Z) (ad : Nat → Nat) (s : State), o_Ex Z ad s → va_T .byte (ad q) N f (o_A Z) s s.heap) (h0 : 0 ≤ i) (h1 : i < N) (hN : N ≤ 2147483647) (hv : f i.toNat = .int z) (k : o_V l M d al post (pc + 1) ls (.int z :: st) n h mc ms) : o_V l M d al post pc ls (.int (o_I i) :: .ref q :: st) n h mc ms := by
  intro Z p e R s m args below meth c ad H locs cells slots MC MS la Q X E S P a1 a2 a3 a4 L K
  exact va_tb X.1 X.2.1 (hz Z ad s E) S (o_in (o_inR hN h0 h1) h0 h1) (v := .int z) (by rw [o_clamp (o_inR hN h0 h1)]; exact hv) hd (k Z p e R s m args below meth c ad H locs cells slots MC MS la Q X E S P a1 a2 a3 a4 L K)
theorem o_tiC {q N : Nat} {f : Nat → Value} {i : Int} {z : Int32} (hd : decode M.2.1 pc = .ok (.iaload, 1)) (hz : ∀ (Z : o_Z) (ad : Nat → Nat) (s : State), o_Ex Z ad s → va_T .int (ad q) N f (o_A Z) s s.heap) (h0 : 0 ≤ i) (h1 : i < N) (hN : N ≤ 2147483647) (hv : f i.toNat = .int z) (k : o_V l M d al post (pc + 1) ls (.int z :: st) n h mc ms) : o_V l M d al post pc ls (.int (o_I i) :: .ref q :: st) n h mc ms := by
  intro Z p e R s m args below meth c ad H locs cells slots MC MS la Q X E S P a1 a2 a3 a4 L K
  exact va_ti X.1 X.2.1 (hz Z ad s E) S (o_in (o_inR hN h0 h1) h0 h1) (v := .int z) (by rw [o_clamp (o_inR hN h0 h1)]; exact hv) hd (k Z p e R s m args below meth c ad H locs cells slots MC MS la Q X E S P a1 a2 a3 a4 L K)
theorem o_tqK {j : Nat} {i : Int} (hd : decode M.2.1 pc = .ok (.aaload, 1)) (hi : i = (j : Int)) (hj : j < 7) (k : o_V l M d al post (pc + 1) ls (.ref (1000000 + j) :: st) n h mc ms) : o_V l M d al post pc ls (.int (o_I i) :: .ref 4000000 :: st) n h mc ms := by
  intro Z p e R s m args below meth c ad H locs cells slots MC MS la Q X E S P a1 a2 a3 a4 L K
  subst hi
  exact vb_tq X.1 X.2.1 E.2.2.2.2.1.2.2.2.2.1 S (o_in (o_inR (n := 7) (by decide) (by omega) (by omega)) (by omega) (by omega)) (v := .ref (ad (1000000 + j))) (by rw [o_clamp (o_inR (n := 7) (by decide) (by omega) (by omega))]; rfl) hd (k Z p e R s m args below meth c ad H locs cells slots MC MS la Q X E S P a1 a2 a3 a4 L K)
theorem o_tlC {q N : Nat} {ty : FieldType} {f : Nat → Value} (hd : decode M.2.1 pc = .ok (.arraylength, 1)) (hz : ∀ (Z : o_Z) (ad : Nat → Nat) (s : State), o_Ex Z ad s → va_T ty (ad q) N f (o_A Z) s s.heap) (k : o_V l M d al post (pc + 1) ls (.int (o_I (N : Int)) :: st) n h mc ms) : o_V l M d al post pc ls (.ref q :: st) n h mc ms := by
  intro Z p e R s m args below meth c ad H locs cells slots MC MS la Q X E S P a1 a2 a3 a4 L K
  exact va_tlen X.1 X.2.1 (hz Z ad s E) S (v := o_I (N : Int)) (o_nI N) hd (k Z p e R s m args below meth c ad H locs cells slots MC MS la Q X E S P a1 a2 a3 a4 L K)
theorem o_tlK (hd : decode M.2.1 pc = .ok (.arraylength, 1)) (k : o_V l M d al post (pc + 1) ls (.int (o_I 7) :: st) n h mc ms) : o_V l M d al post pc ls (.ref 4000000 :: st) n h mc ms := by
  intro Z p e R s m args below meth c ad H locs cells slots MC MS la Q X E S P a1 a2 a3 a4 L K
  exact va_tlen X.1 X.2.1 E.2.2.2.2.1.2.2.2.2.1 S (v := o_I 7) (o_nI 7) hd (k Z p e R s m args below meth c ad H locs cells slots MC MS la Q X E S P a1 a2 a3 a4 L K)
theorem o_oi {i : Nat} {b : Nat} (hd : decode M.2.1 pc = .ok (.invokespecial i, 3)) (hw : Cond.methodLink M.1 i Lib.objectInit ∈ o_gW) (hin : Cond.instanceMethod Lib.objectInit ∈ o_gW) (hco : Cond.code Lib.objectInit ⟨#[0xb1]⟩ 1 none ∈ o_gW) (hcat : (st.map fun v => v.category).sum ≤ 20) (k : o_V l M d al post (pc + 3) ls st n h mc ms) : o_V l M d al post pc ls (.ref b :: st) n h mc ms := by
  intro Z p e R s m args below meth c ad H locs cells slots MC MS la Q X E S P a1 a2 a3 a4 L K
  obtain ⟨hx, hbb, hown, hts, hml, hr, hlk, htab, hst9, hfr9, hlo9⟩ := id X
  refine W.objInit hx hbb hown (hts _ hw) (hts _ hin) (hts _ hco) (g := F0 m pc la ((.ref b :: st).map (o_rV ad))) rfl (by show la.size = _; rw [L.1, hml]) (a := ad b) (rest := st.map (o_rV ad)) rfl hd (by omega) ?_ (k Z p e R s m args below meth c ad H locs cells slots MC MS la Q X E S P a1 a2 a3 a4 L K)
  show 2 * 0 + _ + 12 ≤ R.locals
  rw [o_cats]
  omega
theorem o_new {ci N i : Nat} {C : String} {T : u_T} {fs : List Value} {ty : Nat → FieldType} (hok : o_ok n h) (hn : n < 1000000) (hal : al n) (hd : decode M.2.1 pc = .ok (.new i, 3)) (hk : Cond.classLink M.1 i C ∈ o_gW) (hin : Cond.instantiable C N ∈ o_gW) (hini : Cond.initialized C ∈ o_gW) (hc : o_cl[ci]? = some (C, T, N)) (hty : ∀ k, k < N → parseFieldDescriptor (T k).2.2.1 = some (ty k)) (hfs : ∀ j, j < N → defaultValue (ty j) = vp_V fs j) (hnr : ∀ v ∈ fs, ∀ r : Nat, v ≠ .ref r) (hfr : o_refs n ls st) (hmc : 1 ≤ mc) (hms : N ≤ ms)
    (k : o_ok (n + 1) (o_up h n (.inr (ci, fs))) → o_V l M d al post (pc + 3) ls (.ref n :: st) (n + 1) (o_up h n (.inr (ci, fs))) (mc - 1) (ms - N)) : o_V l M d al post pc ls st n h mc ms := by
  intro Z p e R s m args below meth c ad H locs cells slots MC MS la Q X E S P a1 a2 a3 a4 L K
  obtain ⟨hcw, -, -⟩ := o_clAt hc
  have hcc : o_okC (n + 1) (.inr (ci, fs)) := fun v hv r hr => absurd hr (hnr v hv r)
  refine va_new (D := Z.2.1) (cl := o_cl) (tys := o_tys Z) X.1 X.2.1 X.2.2.2.1 hcw ty hty X.2.2.1 (X.2.2.2.1 _ hk) (X.2.2.2.1 _ hin) (X.2.2.2.1 _ hini) E.2.1 P.1 P.2 S E.1.2 hc hfs (by omega) (show slots + N ≤ R.slots by omega) hd (fun q H1 hP hD hS => ?_)
  obtain ⟨ad', had⟩ : ∃ ad' : Nat → Nat, ad' = fun k => if k = n then q else ad k := ⟨_, rfl⟩
  have e1 : ∀ k, k ≠ n → ad' k = ad k := fun k hk => by rw [had]; exact if_neg hk
  have e2 : ad' n = q := by rw [had]; exact if_pos rfl
  have hag : o_ag al ad ad' := fun k hk => e1 k (fun z => hk (by rw [z]; exact hal))
  have w1 : ls.map (fun q => (q.1, o_rV ad' q.2)) = ls.map (fun q => (q.1, o_rV ad q.2)) := List.map_congr_left fun q hq => by rw [o_rV_n e1 (hfr.1 q hq)]
  have w2 : st.map (o_rV ad') = st.map (o_rV ad) := List.map_congr_left fun v hv => o_rV_n e1 (hfr.2 v hv)
  have w3 := o_rW_app (cy := Z.2.2.1) (c := .inr (ci, fs)) (hok.nr hn) e1 e2 (e0 := .inr (ci, fs)) (by
    show Sum.inr (ci, fs) = Sum.inr (ci, fs.map (o_rV ad'))
    congr 2
    exact (List.map_id' fs).symm.trans (List.map_congr_left fun v hv => by
      cases v with
      | ref r => exact absurd rfl (hnr _ hv r)
      | _ => rfl))
  rw [w3] at hP hD
  have k9 := k (hok.app hcc) Z p e R s m args below meth c ad' H1 locs (cells + 1) (slots + N) MC MS la Q X (E.ad (fun k hk => e1 k (by omega))) hS ⟨hP, hD⟩ (by omega) (by omega) a3 a4 (by rw [w1]; exact L)
    ⟨fun v n1 h1 ad1 H1 locs1 c1 s1 pc1 la1 q1 q2 => K.1 v n1 h1 ad1 H1 locs1 c1 s1 pc1 la1 q1 (o_ag.tr hag q2 (fun _ z => z)),
      fun E1 q9 ce n1 h1 ad1 H1 locs1 c1 s1 pc1 la1 rest1 q1 q2 => K.2 E1 q9 ce n1 h1 ad1 H1 locs1 c1 s1 pc1 la1 rest1 q1 (o_ag.tr hag q2 (fun _ z => z))⟩
  rw [List.map_cons, w2, show o_rV ad' (.ref n) = .ref q from congrArg Value.ref e2] at k9
  exact k9
theorem o_newaB {at9 : ArrayType} {ty : FieldType} {t N : Nat} {x : vp_A} (hnr : ∀ k, k < n → o_nrC n (h k)) (hn : n < 1000000) (hal : al n) (hd : decode M.2.1 pc = .ok (.newarray at9, 2)) (hty : newarray.typeOf at9 = ty) (ht : o_tyL[t]? = some ty) (hw : Cond.arrayClass ty ∈ o_gW) (hx : ∀ cA : ClassId, vp_cell cA x = arrV cA N (fun _ => defaultValue ty)) (hxr : ∀ ad, o_rA ad x = x) (hN : N ≤ 65536) (hfr : o_refs n ls st) (hmc : 1 ≤ mc) (hms : N ≤ ms)
    (k : o_V l M d al post (pc + 2) ls (.ref n :: st) (n + 1) (o_up h n (.inl (t, x))) (mc - 1) (ms - N)) : o_V l M d al post pc ls (.int (o_I (N : Int)) :: st) n h mc ms := by
  intro Z p e R s m args below meth c ad H locs cells slots MC MS la Q X E S P a1 a2 a3 a4 L K
  have rN : o_R (N : Int) := ⟨by omega, by omega⟩
  have hb9 : N * componentBytes ty ≤ 536870912 := by
    subst hty
    cases at9 <;> (simp [newarray.typeOf, componentBytes]; omega)
  refine va_newa (D := Z.2.1) (cl := o_cl) (tys := o_tys Z) X.1 X.2.1 (atype := at9) (by rw [hty]; exact X.2.2.2.1 _ hw) hty E.2.1 P.1 P.2 S E.1.2 hx (n := o_I (N : Int)) (N' := N) (fun q => by have := (o_lt rN o_R0).mp q; omega) (by rw [o_clamp rN]; omega) hb9 (by omega) (by omega) hd (fun q cA H1 hK2 hP hD hS => ?_)
  have hcA : cA = Z.2.2.1 t := by
    have r1 := (hK2.2 (o_tys Z).length (cA, ty) (by rw [List.getElem?_append_right (Nat.le_refl _), Nat.sub_self]; rfl)).2
    have r2 := (E.2.1.2 t _ (o_tys_get ht)).2
    subst hty
    cases at9 <;> exact Option.some.inj (r1.symm.trans r2)
  subst hcA
  obtain ⟨ad', had⟩ : ∃ ad' : Nat → Nat, ad' = fun k => if k = n then q else ad k := ⟨_, rfl⟩
  have e1 : ∀ k, k ≠ n → ad' k = ad k := fun k hk => by rw [had]; exact if_neg hk
  have e2 : ad' n = q := by rw [had]; exact if_pos rfl
  have hag : o_ag al ad ad' := fun k hk => e1 k (fun z => hk (by rw [z]; exact hal))
  have w1 : ls.map (fun q => (q.1, o_rV ad' q.2)) = ls.map (fun q => (q.1, o_rV ad q.2)) := List.map_congr_left fun q hq => by rw [o_rV_n e1 (hfr.1 q hq)]
  have w2 : st.map (o_rV ad') = st.map (o_rV ad) := List.map_congr_left fun v hv => o_rV_n e1 (hfr.2 v hv)
  have w3 := o_rW_app (cy := Z.2.2.1) (c := .inl (t, x)) hnr e1 e2 (e0 := .inl (Z.2.2.1 t, x)) (by
    show Sum.inl (Z.2.2.1 t, x) = Sum.inl (Z.2.2.1 t, o_rA ad' x)
    rw [hxr])
  rw [w3] at hP hD
  have k9 := k Z p e R s m args below meth c ad' H1 locs (cells + 1) (slots + N) MC MS la Q X (E.ad (fun k hk => e1 k (by omega))) hS ⟨hP, hD⟩ (by omega) (by omega) a3 a4 (by rw [w1]; exact L)
    ⟨fun v n1 h1 ad1 H1 locs1 c1 s1 pc1 la1 q1 q2 => K.1 v n1 h1 ad1 H1 locs1 c1 s1 pc1 la1 q1 (o_ag.tr hag q2 (fun _ z => z)),
      fun E1 q9 ce n1 h1 ad1 H1 locs1 c1 s1 pc1 la1 rest1 q1 q2 => K.2 E1 q9 ce n1 h1 ad1 H1 locs1 c1 s1 pc1 la1 rest1 q1 (o_ag.tr hag q2 (fun _ z => z))⟩
  rw [List.map_cons, w2, show o_rV ad' (.ref n) = .ref q from congrArg Value.ref e2] at k9
  exact k9
theorem o_newa {at9 : ArrayType} {ty : FieldType} {t N : Nat} {x : vp_A} (hok : o_ok n h) (hn : n < 1000000) (hal : al n) (hd : decode M.2.1 pc = .ok (.newarray at9, 2)) (hty : newarray.typeOf at9 = ty) (ht : o_tyL[t]? = some ty) (hw : Cond.arrayClass ty ∈ o_gW) (hx : ∀ cA : ClassId, vp_cell cA x = arrV cA N (fun _ => defaultValue ty)) (hxr : ∀ ad, o_rA ad x = x) (hxk : o_okC (n + 1) (.inl (t, x))) (hN : N ≤ 65536) (hfr : o_refs n ls st) (hmc : 1 ≤ mc) (hms : N ≤ ms)
    (k : o_ok (n + 1) (o_up h n (.inl (t, x))) → o_V l M d al post (pc + 2) ls (.ref n :: st) (n + 1) (o_up h n (.inl (t, x))) (mc - 1) (ms - N)) : o_V l M d al post pc ls (.int (o_I (N : Int)) :: st) n h mc ms :=
  o_newaB (hok.nr hn) hn hal hd hty ht hw hx hxr hN hfr hmc hms (k (hok.app hxk))
theorem o_newq {i t N : Nat} {C : String} (hok : o_ok n h) (hn : n < 1000000) (hal : al n) (hd : decode M.2.1 pc = .ok (.anewarray i, 3)) (hC : C ∈ o_aoL) (ht : o_tyL[t]? = some (.object C)) (hw : Cond.classLink M.1 i C ∈ o_gW) (hN : N ≤ 65536) (hfr : o_refs n ls st) (hmc : 1 ≤ mc) (hms : N ≤ ms)
    (k : o_ok (n + 1) (o_up h n (.inl (t, N, .inr (.inr (.inr (.inr (fun _ => none))))))) → o_V l M d al post (pc + 3) ls (.ref n :: st) (n + 1) (o_up h n (.inl (t, N, .inr (.inr (.inr (.inr (fun _ => none))))))) (mc - 1) (ms - N)) : o_V l M d al post pc ls (.int (o_I (N : Int)) :: st) n h mc ms := by
  intro Z p e R s m args below meth c ad H locs cells slots MC MS la Q X E S P a1 a2 a3 a4 L K
  have rN : o_R (N : Int) := ⟨by omega, by omega⟩
  have hxk : o_okC (n + 1) (.inl (t, N, .inr (.inr (.inr (.inr (fun _ => none)))))) := fun j r hr => by cases hr
  refine va_newq (D := Z.2.1) (cl := o_cl) (tys := o_tys Z) X.1 X.2.1 X.2.2.1 (X.2.2.2.1 _ hw) (E.2.2.2.2.2.2.2.1 C hC) E.2.1 P.1 P.2 S E.1.2 (n := o_I (N : Int)) (N' := N) (fun q => by have := (o_lt rN o_R0).mp q; omega) (by rw [o_clamp rN]; omega) (by omega) (by omega) (by omega) hd (fun q cA H1 hK2 hP hD hS => ?_)
  have hcA : cA = Z.2.2.1 t := by
    obtain ⟨-, -, -, -, -, r1⟩ := (hK2.2 (o_tys Z).length (cA, .object C) (by rw [List.getElem?_append_right (Nat.le_refl _), Nat.sub_self]; rfl)).2
    obtain ⟨-, -, -, -, -, r2⟩ := (E.2.1.2 t _ (o_tys_get ht)).2
    exact Option.some.inj (r1.symm.trans r2)
  subst hcA
  obtain ⟨ad', had⟩ : ∃ ad' : Nat → Nat, ad' = fun k => if k = n then q else ad k := ⟨_, rfl⟩
  have e1 : ∀ k, k ≠ n → ad' k = ad k := fun k hk => by rw [had]; exact if_neg hk
  have e2 : ad' n = q := by rw [had]; exact if_pos rfl
  have hag : o_ag al ad ad' := fun k hk => e1 k (fun z => hk (by rw [z]; exact hal))
  have w1 : ls.map (fun q => (q.1, o_rV ad' q.2)) = ls.map (fun q => (q.1, o_rV ad q.2)) := List.map_congr_left fun q hq => by rw [o_rV_n e1 (hfr.1 q hq)]
  have w2 : st.map (o_rV ad') = st.map (o_rV ad) := List.map_congr_left fun v hv => o_rV_n e1 (hfr.2 v hv)
  have w3 := o_rW_app (cy := Z.2.2.1) (c := .inl (t, N, .inr (.inr (.inr (.inr (fun _ => none)))))) (hok.nr hn) e1 e2 (e0 := .inl (Z.2.2.1 t, N, .inr (.inr (.inr (.inr (fun _ => none)))))) rfl
  rw [w3] at hP hD
  have k9 := k (hok.app hxk) Z p e R s m args below meth c ad' H1 locs (cells + 1) (slots + N) MC MS la Q X (E.ad (fun k hk => e1 k (by omega))) hS ⟨hP, hD⟩ (by omega) (by omega) a3 a4 (by rw [w1]; exact L)
    ⟨fun v n1 h1 ad1 H1 locs1 c1 s1 pc1 la1 q1 q2 => K.1 v n1 h1 ad1 H1 locs1 c1 s1 pc1 la1 q1 (o_ag.tr hag q2 (fun _ z => z)),
      fun E1 q9 ce n1 h1 ad1 H1 locs1 c1 s1 pc1 la1 rest1 q1 q2 => K.2 E1 q9 ce n1 h1 ad1 H1 locs1 c1 s1 pc1 la1 rest1 q1 (o_ag.tr hag q2 (fun _ z => z))⟩
  rw [List.map_cons, w2, show o_rV ad' (.ref n) = .ref q from congrArg Value.ref e2] at k9
  exact k9
theorem o_aast {b r t ci len : Nat} {C : String} {T : u_T} {N : Nat} {vs : List Value} {f : Nat → Option Nat} {i : Int} (hok : o_ok n h) (hd : decode M.2.1 pc = .ok (.aastore, 1)) (hb : b < n) (hr : r < n) (hh : h b = .inl (t, len, .inr (.inr (.inr (.inr f))))) (hv : h r = .inr (ci, vs)) (hc : o_cl[ci]? = some (C, T, N)) (ht : o_tyL[t]? = some (.object C)) (hle : len ≤ 2147483647) (h0 : 0 ≤ i) (h1 : i < len)
    (k : o_ok n (o_up h b (.inl (t, len, .inr (.inr (.inr (.inr (va_up f i.toNat (some r)))))))) → o_V l M d al post (pc + 1) ls st n (o_up h b (.inl (t, len, .inr (.inr (.inr (.inr (va_up f i.toNat (some r)))))))) mc ms) : o_V l M d al post pc ls (.ref r :: .int (o_I i) :: .ref b :: st) n h mc ms := by
  intro Z p e R s m args below meth c ad H locs cells slots MC MS la Q X E S P a1 a2 a3 a4 L K
  have rI := o_inR hle h0 h1
  have hxk : o_okC n (.inl (t, len, .inr (.inr (.inr (.inr (va_up f i.toNat (some r))))))) := fun j q hq => by
    unfold va_up at hq
    by_cases z : j = i.toNat
    · rw [if_pos z] at hq; cases hq; exact Or.inl hr
    · rw [if_neg z] at hq
      have := hok b hb
      rw [hh] at this
      exact this j q hq
  refine va_astq (D := Z.2.1) (cl := o_cl) (tys := o_tys Z) (f := fun j => (f j).map ad) X.1 X.2.1 E.2.1 P.1 P.2 S b t r ci (o_rW_get hb hh) (o_tys_get ht) (o_rW_get hr hv) hc (o_in rI h0 h1) hd (fun H1 locs1 hP hD hS => ?_)
  refine k (hok.up hxk) Z p e R s m args below meth c ad H1 locs1 cells slots MC MS la Q X E hS (o_Rp.set ?_ rfl hP hD) a1 a2 a3 a4 L K
  rw [o_clamp rI]
  have : va_up (fun j => (f j).map ad) i.toNat (some (ad r)) = fun j => (va_up f i.toNat (some r) j).map ad := by
    funext j
    unfold va_up
    by_cases z : j = i.toNat
    · rw [if_pos z, if_pos z]; rfl
    · rw [if_neg z, if_neg z]
  rw [this]
  rfl
theorem o_putF {b ci k9 i N : Nat} {fs : List Value} {C : String} {T : u_T} {v : Value} {ty : FieldType} (hd : decode M.2.1 pc = .ok (.putfield i, 3)) (hb : b < n) (hh : h b = .inr (ci, fs)) (hc : o_cl[ci]? = some (C, T, N)) (hk : k9 < N) (hw : Cond.fieldLink M.1 i (T k9).1 (T k9).2.1 (T k9).2.2.1 ∈ o_gW) (hfin : (T k9).2.2.2 = true) (hnm : M.2.2.2.2.2 = "<init>") (hdecl : (T k9).1 = M.1) (hty : parseFieldDescriptor (T k9).2.2.1 = some ty) (hl : k9 < fs.length) (hn : ∀ ad, narrow ty (o_rV ad v) = o_rV ad v) (hf : ∀ ad, fits ty (o_rV ad v) = true) (k : o_V l M d al post (pc + 3) ls st n (o_up h b (.inr (ci, fs.set k9 v))) mc ms) : o_V l M d al post pc ls (v :: .ref b :: st) n h mc ms := by
  intro Z p e R s m args below meth c ad H locs cells slots MC MS la Q X E S P a1 a2 a3 a4 L K
  obtain ⟨hcw, ⟨ty0, hty0⟩, hnm9⟩ := o_clAt hc
  refine va_putF (D := Z.2.1) (cl := o_cl) (tys := o_tys Z) X.1 X.2.1 X.2.2.2.1 hcw ty0 hty0 hnm9 X.2.2.1 E.2.1 P.1 P.2 S b (o_rW_get hb hh) hc k9 hk (X.2.2.2.1 _ hw) (fun _ h9 => h9) hfin (X.2.2.2.2.2.2.2.1.2 hnm) hdecl hty (hn ad) (hf ad) (by rw [List.length_map]; exact hl) hd (fun H1 locs1 hP hD hS => ?_)
  exact k Z p e R s m args below meth c ad H1 locs1 cells slots MC MS la Q X E hS (o_Rp.set (by rw [← List.map_set]; rfl) rfl hP hD) a1 a2 a3 a4 L K
/-- a cell takes another's place: a array that was made anew -/
theorem o_swap {a : Nat} {h' : Nat → o_C} (ha : a < n) (hn : n < 1000000) (hal : al a) (hfr : o_refs a ls st) (hfr2 : o_refs n ls st) (e1 : h' a = h n) (e2 : ∀ ad ad' : Nat → Nat, (∀ k, k ≠ a → k ≠ n → ad' k = ad k) → ad' a = ad n → ∀ cy k, k < n → k ≠ a → o_rC ad' cy (h' k) = o_rC ad cy (h k)) (e3 : ∀ ad ad' : Nat → Nat, ∀ cy, o_rC ad' cy (h n) = o_rC ad cy (h n))
    (k : o_V l M d al post pc ls st n h' mc ms) : o_V l M d al post pc ls st (n + 1) h mc ms := by
  intro Z p e R s m args below meth c ad H locs cells slots MC MS la Q X E S P a1 a2 a3 a4 L K
  obtain ⟨ad', had⟩ : ∃ ad' : Nat → Nat, ad' = fun k => if k = a then ad n else ad k := ⟨_, rfl⟩
  have f1 : ∀ k, k ≠ a → ad' k = ad k := fun k hk => by rw [had]; exact if_neg hk
  have f2 : ad' a = ad n := by rw [had]; exact if_pos rfl
  have hag : o_ag al ad ad' := fun k hk => f1 k (fun z => hk (by rw [z]; exact hal))
  have w1 : ls.map (fun q => (q.1, o_rV ad' q.2)) = ls.map (fun q => (q.1, o_rV ad q.2)) := List.map_congr_left fun q hq => by rw [o_rV_n f1 (hfr.1 q hq)]
  have w2 : st.map (o_rV ad') = st.map (o_rV ad) := List.map_congr_left fun v hv => o_rV_n f1 (hfr.2 v hv)
  have g1 : ∀ j x, (o_rW ad' Z.2.2.1 n h')[j]? = some x → (o_rW ad Z.2.2.1 (n + 1) h)[if j = a then n else j]? = some x := by
    intro j x hx
    have hj : j < n := by
      rcases Nat.lt_or_ge j n with q | q
      · exact q
      · rw [List.getElem?_eq_none (by simp [o_rW]; exact q)] at hx; cases hx
    rw [o_rW_get hj rfl] at hx
    cases hx
    by_cases q : j = a
    · rw [if_pos q, o_rW_get (Nat.lt_succ_self n) rfl, q, f2, e1, e3 ad ad']
    · rw [if_neg q, o_rW_get (by omega) rfl, f1 j q, e2 ad ad' (fun k q1 _ => f1 k q1) f2 _ j hj q]
  have hR : o_Rp Z ad' n h' H := by
    refine ⟨fun j x hx => P.1 _ x (g1 j x hx), fun i j x y hx hy e9 => ?_, fun j x hx => P.2.2 _ x (g1 j x hx)⟩
    have := P.2.1 _ _ x y (g1 i x hx) (g1 j y hy) e9
    have hj : i < n ∧ j < n := by
      refine ⟨?_, ?_⟩
      · rcases Nat.lt_or_ge i n with q | q
        · exact q
        · rw [List.getElem?_eq_none (by simp [o_rW]; exact q)] at hx; cases hx
      · rcases Nat.lt_or_ge j n with q | q
        · exact q
        · rw [List.getElem?_eq_none (by simp [o_rW]; exact q)] at hy; cases hy
    split at this <;> split at this <;> omega
  have k9 := k Z p e R s m args below meth c ad' H locs cells slots MC MS la Q X (E.ad (fun k hk => f1 k (by omega))) S hR a1 a2 a3 a4 (by rw [w1]; exact L)
    ⟨fun v n1 h1 ad1 H1 locs1 c1 s1 pc1 la1 q1 q2 => K.1 v n1 h1 ad1 H1 locs1 c1 s1 pc1 la1 q1 (o_ag.tr hag q2 (fun _ z => z)),
      fun E1 q9 ce n1 h1 ad1 H1 locs1 c1 s1 pc1 la1 rest1 q1 q2 => K.2 E1 q9 ce n1 h1 ad1 H1 locs1 c1 s1 pc1 la1 rest1 q1 (o_ag.tr hag q2 (fun _ z => z))⟩
  rw [w2] at k9
  exact k9
/-- the receiver: its class is known -/
def o_rec (C : String) (b n : Nat) (h : Nat → o_C) : Prop := ∀ (Z : o_Z) (ad : Nat → Nat) (s : State) (H : Heap) (locs : List Loc), o_Ex Z ad s → va_S (o_A Z) s.heap H locs → o_Rp Z ad n h H → ∃ cell : Cell, H[ad b]? = some cell ∧ cell.vm.isStatics = false ∧ s.vm.findClass C = some cell.cls
theorem o_recW {b ci N : Nat} {C : String} {T : u_T} {fs : List Value} (hb : b < n) (hh : h b = .inr (ci, fs)) (hc : o_cl[ci]? = some (C, T, N)) : o_rec C b n h := fun _ _ _ _ _ E _ P => va_recv (q0 := b) (ci := ci) E.2.1 P.1 hc (o_rW_get hb hh)
theorem o_recC {q : Nat} {C : String} (hz : ∀ (Z : o_Z) (ad : Nat → Nat) (s : State), o_Ex Z ad s → va_O C (ad q) (o_A Z) s s.heap) : o_rec C q n h := fun Z ad s _ _ E S _ => by
  obtain ⟨cell, h1, h2, h3, -⟩ := (hz Z ad s E).kept S.2.1
  exact ⟨cell, h1, h2, h3⟩
def o_yW (C : String) (y : MethodName) (cw : Cond) : Prop := Cond.instanceMethod y ∈ o_gW ∧ Cond.selects C y y ∈ o_gW ∧ Cond.initialized y.cls ∈ o_gW ∧ cw ∈ o_gW
theorem o_callG {y : MethodName} {yb : ByteArray} {yL dy mcy msy index b : Nat} {yr : Option FieldType} {aly : Nat → Prop} {posty : o_P} (C : String) (As : List Value) {rest : List Value}
    (hC : o_Ct l y (.code y yb yL yr) dy aly (.ref b :: As) n h mcy msy posty) (hd : decode M.2.1 pc = .ok (.invokevirtual index, 3)) (hw : Cond.methodLink M.1 index y ∈ o_gW) (hyw : o_yW C y (.code y yb yL yr)) (hyd : o_yd y As.length = true) (hyL : yL ≤ 21)
    (hdy : dy < d) (hm : mcy ≤ mc) (hs : msy ≤ ms) (hrec : o_rec C b n h) (hst : st = As.reverse ++ .ref b :: rest) (hcat : (rest.map fun v => v.category).sum ≤ 8)
    (hal : ∀ k, aly k → al k) (hal9 : ∀ k, aly k → k < 1000000) (hfr : (∀ k, ¬ aly k) ∨ ((∀ q ∈ ls, ∀ k, q.2 = .ref k → ¬ aly k) ∧ ∀ v ∈ rest, ∀ k, v = .ref k → ¬ aly k))
    (k : ∀ v n' h', posty (.inl v) n' h' → o_V l M d al post (pc + 3) ls (v.toList ++ rest) n' h' (mc - mcy) (ms - msy))
    (kx : ∀ E n' h', posty (.inr E) n' h' → o_T l M d al post pc ls E n' h' (mc - mcy) (ms - msy)) : o_V l M d al post pc ls st n h mc ms := by
  intro Z p e R s m args below meth c ad H locs cells slots MC MS la Q X E S P a1 a2 a3 a4 L K
  obtain ⟨hx, hbb, hown, hts, hml, hr, hlk, htab, hst9, hfr9, hlo9⟩ := id X
  have hf1 : (o_rm dy mcy msy).frames + 1 ≤ R.frames := by show dy + 8 + 1 ≤ _; omega
  have hf2 : 8 + (yL + 11) + (o_rm dy mcy msy).locals ≤ R.locals := by show 8 + (yL + 11) + (40 * dy + 160) ≤ _; omega
  have cb : CallB R s args M.1 index y yb yL yr (.code y yb yL yr :: o_gW) (o_rm dy mcy msy) mcy msy As.length := callB_of (ws' := o_gW) As.length hts (o_gCode hyw.2.2.2) rfl rfl rfl (hts _ hyw.2.2.1) (hts _ hw) (o_yd_of hyd) ⟨hf1, hf2⟩
  have hrun := vx_runV (l := l) (e := e) (below := below) (meth := meth) (locs := locs) (cells := cells) (slots := slots) (H := H) (b := ad b) (As := As.map (o_rV ad)) (rest := rest.map (o_rV ad)) (C := C) (Ts := o_gW) (nL := M.2.2.1) ⟨hx, hbb, hml, hown, hts⟩ (hC Z ad) ⟨cb, hts _ hyw.1, hts _ hyw.2.1⟩
    ⟨o_Pc.blind, hrec Z ad s H locs E S P, (o_preS (As := .ref b :: As) E S P).2⟩ (g := F0 m pc la (st.map (o_rV ad))) rfl (by rw [List.length_map]) L.1 (by rw [hst]; simp [o_rV]) (by have := lv_room (m := m) (pc := pc) (ls := la) (rest := st.map (o_rV ad)) (st := rest.map (o_rV ad)) (by rw [o_cats]; exact hcat); exact this) hd ⟨by omega, by omega⟩
  exact o_back (dy := dy) X E S a1 a2 a3 a4 L K hm hs hal hal9 hfr hrun k kx
theorem o_cG {y : MethodName} {yb : ByteArray} {yL dy index b : Nat} {yr : Option FieldType} (C : String) (As : List Value) {rest : List Value} {v : Option Value} {h' : Nat → o_C}
    (hC : o_Ct l y (.code y yb yL yr) dy o_no (.ref b :: As) n h 0 0 (o_is v n h')) (hd : decode M.2.1 pc = .ok (.invokevirtual index, 3)) (hw : Cond.methodLink M.1 index y ∈ o_gW) (hyw : o_yW C y (.code y yb yL yr)) (hyd : o_yd y As.length = true) (hyL : yL ≤ 21)
    (hdy : dy < d) (hrec : o_rec C b n h) (hst : st = As.reverse ++ .ref b :: rest) (hcat : (rest.map fun v => v.category).sum ≤ 8)
    (k : o_V l M d al post (pc + 3) ls (v.toList ++ rest) n h' mc ms) : o_V l M d al post pc ls st n h mc ms :=
  o_callG C As hC hd hw hyw hyd hyL hdy (Nat.zero_le _) (Nat.zero_le _) hrec hst hcat (fun _ z => z.elim) (fun _ z => z.elim) (Or.inl fun _ z => z) (fun v' n' h9 q => by obtain ⟨q1, rfl, rfl⟩ := q; cases q1; exact k) (fun E n' h9 q => by cases q.1)
/-- Enum.ordinal -/
theorem o_cO {x y : MethodName} {owner : String} {yb : ByteArray} {yL dy index b : Nat} {yr : Option FieldType} (C : String) {rest : List Value} {v : Option Value}
    (hC : o_Ct l y (.code y yb yL yr) dy o_no [.ref b] n h 0 0 (o_is v n h)) (hd : decode M.2.1 pc = .ok (.invokevirtual index, 3)) (hT : ∀ w ∈ va_wsU M.1 index C owner x y [], w ∈ o_gW) (hco : Cond.code y yb yL yr ∈ o_gW) (hyx : y = ⟨owner, x.name, x.desc⟩) (hyd : owner ≠ "java/lang/invoke/MethodHandle" ∧ owner ≠ "java/lang/invoke/VarHandle" ∧ (parseMethodDescriptor x.desc).map (fun d => d.parameters.length) = some 0) (hyL : yL ≤ 21)
    (hdy : dy < d) (hrec : o_rec C b n h) (hst : st = .ref b :: rest) (hcat : (rest.map fun v => v.category).sum ≤ 8)
    (k : o_V l M d al post (pc + 3) ls (v.toList ++ rest) n h mc ms) : o_V l M d al post pc ls st n h mc ms := by
  intro Z p e R s m args below meth c ad H locs cells slots MC MS la Q X E S P a1 a2 a3 a4 L K
  obtain ⟨hx, hbb, hown, hts, hml, hr, hlk, htab, hst9, hfr9, hlo9⟩ := id X
  have hf1 : (o_rm dy 0 0).frames + 1 ≤ R.frames := by show dy + 8 + 1 ≤ _; omega
  have hf2 : 8 + (yL + 11) + (o_rm dy 0 0).locals ≤ R.locals := by show 8 + (yL + 11) + (40 * dy + 160) ≤ _; omega
  have cb : va_CU R s args M.1 C owner index x y yb yL yr (.code y yb yL yr :: o_gW) (o_rm dy 0 0) 0 0 0 := va_cwU (ws' := o_gW) (Ts := o_gW) 0 hts (fun w hw => (List.mem_append.mp hw).elim (fun q => o_gIn (ws := va_wsU M.1 index C owner x y []) hT w (by unfold va_wsU; exact List.mem_append_left _ q)) (fun q => o_gCode hco w q)) rfl rfl rfl hyx hyd ⟨hf1, hf2⟩
  have hrun := vx_runU (l := l) (e := e) (below := below) (meth := meth) (locs := locs) (cells := cells) (slots := slots) (H := H) (b := ad b) (As := []) (rest := rest.map (o_rV ad)) (C := C) (Ts := o_gW) (nL := M.2.2.1) ⟨hx, hbb, hml, hown, hts⟩ (hC Z ad) cb
    ⟨o_Pc.blind, hrec Z ad s H locs E S P, (o_preS (As := [.ref b]) E S P).2⟩ (g := F0 m pc la (st.map (o_rV ad))) rfl rfl L.1 (by rw [hst]; simp [o_rV]) (by have := lv_room (m := m) (pc := pc) (ls := la) (rest := st.map (o_rV ad)) (st := rest.map (o_rV ad)) (by rw [o_cats]; exact hcat); exact this) hd ⟨by omega, by omega⟩
  exact o_back (dy := dy) X E S a1 a2 a3 a4 L K (Nat.zero_le _) (Nat.zero_le _) (fun _ z => z.elim) (fun _ z => z.elim) (Or.inl fun _ z => z) hrun (fun v' n' h9 q => by obtain ⟨q1, rfl, rfl⟩ := q; cases q1; exact k) (fun E n' h9 q => by cases q.1)
/-- a constructor -/
theorem o_callI {y : MethodName} {yb : ByteArray} {yL dy mcy msy index b : Nat} {aly : Nat → Prop} {posty : o_P} (As : List Value) {rest : List Value}
    (hC : o_Ct l y (.code y yb yL none) dy aly (.ref b :: As) n h mcy msy posty) (hd : decode M.2.1 pc = .ok (.invokespecial index, 3)) (hw : Cond.methodLink M.1 index y ∈ o_gW) (hyw : o_yi y (.code y yb yL none)) (hnm : y.name = "<init>") (hyd : o_yd y As.length = true) (hyL : yL ≤ 21)
    (hdy : dy < d) (hm : mcy ≤ mc) (hs : msy ≤ ms) (hst : st = As.reverse ++ .ref b :: rest) (hcat : (rest.map fun v => v.category).sum ≤ 8)
    (hal : ∀ k, aly k → al k) (hal9 : ∀ k, aly k → k < 1000000) (hfr : (∀ k, ¬ aly k) ∨ ((∀ q ∈ ls, ∀ k, q.2 = .ref k → ¬ aly k) ∧ ∀ v ∈ rest, ∀ k, v = .ref k → ¬ aly k))
    (k : ∀ v n' h', posty (.inl v) n' h' → o_V l M d al post (pc + 3) ls (v.toList ++ rest) n' h' (mc - mcy) (ms - msy))
    (kx : ∀ E n' h', posty (.inr E) n' h' → o_T l M d al post pc ls E n' h' (mc - mcy) (ms - msy)) : o_V l M d al post pc ls st n h mc ms := by
  intro Z p e R s m args below meth c ad H locs cells slots MC MS la Q X E S P a1 a2 a3 a4 L K
  obtain ⟨hx, hbb, hown, hts, hml, hr, hlk, htab, hst9, hfr9, hlo9⟩ := id X
  have hf1 : (o_rm dy mcy msy).frames + 1 ≤ R.frames := by show dy + 8 + 1 ≤ _; omega
  have hf2 : 8 + (yL + 11) + (o_rm dy mcy msy).locals ≤ R.locals := by show 8 + (yL + 11) + (40 * dy + 160) ≤ _; omega
  have cb : CallB R s args M.1 index y yb yL none (.code y yb yL none :: o_gW) (o_rm dy mcy msy) mcy msy As.length := callB_of (ws' := o_gW) As.length hts (o_gCode hyw.2.2) rfl rfl rfl (hts _ hyw.2.1) (hts _ hw) (o_yd_of hyd) ⟨hf1, hf2⟩
  have hrun := vx_runI (l := l) (e := e) (below := below) (meth := meth) (locs := locs) (cells := cells) (slots := slots) (H := H) (b := ad b) (As := As.map (o_rV ad)) (rest := rest.map (o_rV ad)) (Ts := o_gW) (nL := M.2.2.1) ⟨hx, hbb, hml, hown, hts⟩ (hC Z ad) ⟨cb, hnm, hts _ hyw.1⟩
    (o_preS (As := .ref b :: As) E S P) (g := F0 m pc la (st.map (o_rV ad))) rfl (by rw [List.length_map]) L.1 (by rw [hst]; simp [o_rV]) (by have := lv_room (m := m) (pc := pc) (ls := la) (rest := st.map (o_rV ad)) (st := rest.map (o_rV ad)) (by rw [o_cats]; exact hcat); exact this) hd ⟨by omega, by omega⟩
  exact o_back (dy := dy) X E S a1 a2 a3 a4 L K hm hs hal hal9 hfr hrun k kx
/-- a nest mate's private constructor -/
theorem o_callIN {y : MethodName} {yb : ByteArray} {yL dy mcy msy index b : Nat} {host : String} {aly : Nat → Prop} {posty : o_P} (As : List Value) {rest : List Value}
    (hC : o_Ct l y (.code y yb yL none) dy aly (.ref b :: As) n h mcy msy posty) (hd : decode M.2.1 pc = .ok (.invokespecial index, 3)) (hw : (M.1, index, y, host) ∈ o_nM) (hyw : o_yi y (.code y yb yL none)) (hnm : y.name = "<init>") (hyd : o_yd y As.length = true) (hyL : yL ≤ 21)
    (hdy : dy < d) (hm : mcy ≤ mc) (hs : msy ≤ ms) (hst : st = As.reverse ++ .ref b :: rest) (hcat : (rest.map fun v => v.category).sum ≤ 8)
    (hal : ∀ k, aly k → al k) (hal9 : ∀ k, aly k → k < 1000000) (hfr : (∀ k, ¬ aly k) ∨ ((∀ q ∈ ls, ∀ k, q.2 = .ref k → ¬ aly k) ∧ ∀ v ∈ rest, ∀ k, v = .ref k → ¬ aly k))
    (k : ∀ v n' h', posty (.inl v) n' h' → o_V l M d al post (pc + 3) ls (v.toList ++ rest) n' h' (mc - mcy) (ms - msy))
    (kx : ∀ E n' h', posty (.inr E) n' h' → o_T l M d al post pc ls E n' h' (mc - mcy) (ms - msy)) : o_V l M d al post pc ls st n h mc ms := by
  intro Z p e R s m args below meth c ad H locs cells slots MC MS la Q X E S P a1 a2 a3 a4 L K
  obtain ⟨hx, hbb, hown, hts, hml, hr, hlk, htab, hst9, hfr9, hlo9⟩ := id X
  have hf1 : (o_rm dy mcy msy).frames + 1 ≤ R.frames := by show dy + 8 + 1 ≤ _; omega
  have hf2 : 8 + (yL + 11) + (o_rm dy mcy msy).locals ≤ R.locals := by show 8 + (yL + 11) + (40 * dy + 160) ≤ _; omega
  have cb : va_CN R s args M.1 index y host yb yL none (.code y yb yL none :: o_gW) (o_rm dy mcy msy) mcy msy As.length := va_cnB (ws' := o_gW) As.length hts (o_gCode hyw.2.2) rfl rfl rfl (E.2.2.1.1 _ hw) (hts _ hyw.2.1) (o_yd_of hyd) ⟨hf1, hf2⟩
  have hrun := vx_runIN (l := l) (e := e) (below := below) (meth := meth) (locs := locs) (cells := cells) (slots := slots) (H := H) (b := ad b) (As := As.map (o_rV ad)) (rest := rest.map (o_rV ad)) (Ts := o_gW) (nL := M.2.2.1) ⟨hx, hbb, hml, hown, hts⟩ (hC Z ad) ⟨cb, hnm, hts _ hyw.1⟩
    (o_preS (As := .ref b :: As) E S P) (g := F0 m pc la (st.map (o_rV ad))) rfl (by rw [List.length_map]) L.1 (by rw [hst]; simp [o_rV]) (by have := lv_room (m := m) (pc := pc) (ls := la) (rest := st.map (o_rV ad)) (st := rest.map (o_rV ad)) (by rw [o_cats]; exact hcat); exact this) hd ⟨by omega, by omega⟩
  exact o_back (dy := dy) X E S a1 a2 a3 a4 L K hm hs hal hal9 hfr hrun k kx
/-- a method of the class above -/
theorem o_callSU {y : MethodName} {yb : ByteArray} {yL dy mcy msy index b ci N : Nat} {yr : Option FieldType} {aly : Nat → Prop} {posty : o_P} {C : String} {T : u_T} {fs : List Value} (As : List Value) {rest : List Value}
    (hC : o_Ct l y (.code y yb yL yr) dy aly (.ref b :: As) n h mcy msy posty) (hd : decode M.2.1 pc = .ok (.invokespecial index, 3)) (hw : ∀ w ∈ va_wsSU M.1 index y [], w ∈ o_gW) (hco : Cond.code y yb yL yr ∈ o_gW) (hyd : y.name ≠ "<init>" ∧ (parseMethodDescriptor y.desc).map (fun d => d.parameters.length) = some As.length) (hyL : yL ≤ 21)
    (hdy : dy < d) (hm : mcy ≤ mc) (hs : msy ≤ ms) (hb : b < n) (hh : h b = .inr (ci, fs)) (hc : o_cl[ci]? = some (C, T, N)) (hst : st = As.reverse ++ .ref b :: rest) (hcat : (rest.map fun v => v.category).sum ≤ 8)
    (hal : ∀ k, aly k → al k) (hal9 : ∀ k, aly k → k < 1000000) (hfr : (∀ k, ¬ aly k) ∨ ((∀ q ∈ ls, ∀ k, q.2 = .ref k → ¬ aly k) ∧ ∀ v ∈ rest, ∀ k, v = .ref k → ¬ aly k))
    (k : ∀ v n' h', posty (.inl v) n' h' → o_V l M d al post (pc + 3) ls (v.toList ++ rest) n' h' (mc - mcy) (ms - msy))
    (kx : ∀ E n' h', posty (.inr E) n' h' → o_T l M d al post pc ls E n' h' (mc - mcy) (ms - msy)) : o_V l M d al post pc ls st n h mc ms := by
  intro Z p e R s m args below meth c ad H locs cells slots MC MS la Q X E S P a1 a2 a3 a4 L K
  obtain ⟨hx, hbb, hown, hts, hml, hr, hlk, htab, hst9, hfr9, hlo9⟩ := id X
  have hf1 : (o_rm dy mcy msy).frames + 1 ≤ R.frames := by show dy + 8 + 1 ≤ _; omega
  have hf2 : 8 + (yL + 11) + (o_rm dy mcy msy).locals ≤ R.locals := by show 8 + (yL + 11) + (40 * dy + 160) ≤ _; omega
  have cb : va_CS R s args M.1 index y yb yL yr (.code y yb yL yr :: o_gW) (o_rm dy mcy msy) mcy msy As.length := va_cwSU (ws' := o_gW) (Ts := o_gW) As.length hts (fun w hw9 => (List.mem_append.mp hw9).elim (fun q => o_gIn (ws := va_wsSU M.1 index y []) hw w (by unfold va_wsSU; exact List.mem_append_left _ q)) (fun q => o_gCode hco w q)) rfl rfl rfl hyd ⟨hf1, hf2⟩
  have hat : ∃ cC, ClassAt s C cC := by
    obtain ⟨-, hfc, kC, hkC, hkind⟩ := E.2.1.1 ci _ hc
    exact ⟨_, hfc, kC, hkC, hkind⟩
  obtain ⟨cC, hat⟩ := hat
  have hrun := vx_runSU (l := l) (e := e) (below := below) (meth := meth) (locs := locs) (cells := cells) (slots := slots) (H := H) (b := ad b) (As := As.map (o_rV ad)) (rest := rest.map (o_rV ad)) (C := C) (Ts := o_gW) (nL := M.2.2.1) hat ⟨hx, hbb, hml, hown, hts⟩ (hC Z ad) cb
    ⟨o_Pc.blind, va_recv (q0 := b) (ci := ci) E.2.1 P.1 hc (o_rW_get hb hh), (o_preS (As := .ref b :: As) E S P).2⟩ (g := F0 m pc la (st.map (o_rV ad))) rfl (by rw [List.length_map]) L.1 (by rw [hst]; simp [o_rV]) (by have := lv_room (m := m) (pc := pc) (ls := la) (rest := st.map (o_rV ad)) (st := rest.map (o_rV ad)) (by rw [o_cats]; exact hcat); exact this) hd ⟨by omega, by omega⟩
  exact o_back (dy := dy) X E S a1 a2 a3 a4 L K hm hs hal hal9 hfr hrun k kx
end OQ
