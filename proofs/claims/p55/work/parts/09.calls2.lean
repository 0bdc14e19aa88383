/-! what a frame is owed where E was thrown over it -/
def o_T (l : Launch) (M : o_M) (d : Nat) (al : Nat → Prop) (post : o_P) (pc : Nat) (ls : List (Nat × Value)) (E : String) (n : Nat) (h : Nat → o_C) (mc ms : Nat) : Prop :=
  ∀ (Z : o_Z) (p : Program) (e : Env) (R : Room) (s : State) (m : MethodId) (args : Array Value) (below : List Frame) (meth : Method) (c : Code) (ad : Nat → Nat) (H : Heap) (locs : List Loc) (cells slots MC MS : Nat) (la : Array Slot) (Q : State → Prop) (q : Addr) (ce : Cell) (rest : List Value),
    o_X l M d p R s m args meth c → o_Ex Z ad s → va_S (o_A Z) s.heap H locs → o_Rp Z ad n h H → cells + mc ≤ MC → slots + ms ≤ MS → MC ≤ R.cells → MS ≤ R.slots → lv_has la M.2.2.1 (ls.map (fun q => (q.1, o_rV ad q.2))) →
    o_K l M Z p e R s m args below meth c ad MC MS Q al post → H[q]? = some ce → ce.vm = .none → s.vm.findClass E = some ce.cls →
    vx_W p l e R s m args below meth c H locs cells slots Q (F0 m pc la rest) q
theorem va_P.left {D : va_G} {cl : List vw_C} {w1 w2 : va_W} {H : Heap} (hP : va_P D cl (w1 ++ w2) H) : va_P D cl w1 H := fun k q hk => hP k q (by rw [List.getElem?_append_left (List.getElem?_eq_some_iff.mp hk).1]; exact hk)
theorem va_D.left {A : Nat → Prop} {w1 w2 : va_W} (hD : va_D A (w1 ++ w2)) : va_D A w1 :=
  ⟨fun i j p q hi hj e => hD.1 i j p q (by rw [List.getElem?_append_left (List.getElem?_eq_some_iff.mp hi).1]; exact hi) (by rw [List.getElem?_append_left (List.getElem?_eq_some_iff.mp hj).1]; exact hj) e,
    fun k q hk => hD.2 k q (by rw [List.getElem?_append_left (List.getElem?_eq_some_iff.mp hk).1]; exact hk)⟩
section OC
variable {l : Launch} {M : o_M} {d : Nat} {al : Nat → Prop} {post : o_P} {pc : Nat} {ls : List (Nat × Value)} {st : List Value} {n : Nat} {h : Nat → o_C} {mc ms : Nat}
/-- not caught here -/
theorem o_T.out {E : String} (hT : M.2.2.2.2.1 = []) (hp : post (.inr E) n h) : o_T l M d al post pc ls E n h mc ms := by
  intro Z p e R s m args below meth c ad H locs cells slots MC MS la Q q ce rest X E' S P a1 a2 a3 a4 L K hce hcv hcl
  exact K.2 E q ce n h ad H locs cells slots pc la rest hp o_ag.rf P S (by omega) (by omega) hT hce hcv hcl
/-- behind a call -/
theorem o_back {dy mcy msy : Nat} {aly : Nat → Prop} {posty : o_P} {Z : o_Z} {p : Program} {e : Env} {R : Room} {s : State} {m : MethodId} {args : Array Value} {below : List Frame} {meth : Method} {c : Code} {ad : Nat → Nat} {H : Heap} {locs : List Loc} {cells slots MC MS : Nat} {la : Array Slot} {Q : State → Prop} {a : Array Value} {rest st0 : List Value}
    (X : o_X l M d p R s m args meth c) (E : o_Ex Z ad s) (S : va_S (o_A Z) s.heap H locs) (a1 : cells + mc ≤ MC) (a2 : slots + ms ≤ MS) (a3 : MC ≤ R.cells) (a4 : MS ≤ R.slots) (L : lv_has la M.2.2.1 (ls.map (fun q => (q.1, o_rV ad q.2)))) (K : o_K l M Z p e R s m args below meth c ad MC MS Q al post)
    (hm : mcy ≤ mc) (hs : msy ≤ ms) (hal : ∀ k, aly k → al k) (hal9 : ∀ k, aly k → k < 1000000) (hfr : (∀ k, ¬ aly k) ∨ ((∀ q ∈ ls, ∀ k, q.2 = .ref k → ¬ aly k) ∧ ∀ v ∈ rest, ∀ k, v = .ref k → ¬ aly k))
    (hr : vx_Run p l e R s m args below meth c H locs cells slots mcy msy (F0 m pc la st0) (rest.map (o_rV ad)) (o_Qc Z ad aly posty a) (o_XC Z ad aly posty) (o_A Z))
    (k : ∀ v n' h', posty (.inl v) n' h' → o_V l M d al post (pc + 3) ls (v.toList ++ rest) n' h' (mc - mcy) (ms - msy))
    (kx : ∀ E n' h', posty (.inr E) n' h' → o_T l M d al post pc ls E n' h' (mc - mcy) (ms - msy)) :
    W p l e R s m args below meth c H locs cells slots Q (F0 m pc la st0) := by
  have nr : ∀ (ad' : Nat → Nat) (v : Value), o_ag aly ad ad' → (∀ k, v = .ref k → ¬ aly k) → o_rV ad' v = o_rV ad v := by
    intro ad' v hag hv
    cases v with
    | ref k => exact congrArg Value.ref (hag k (hv k rfl))
    | _ => rfl
  have nrl : ∀ (ad' : Nat → Nat), o_ag aly ad ad' → ls.map (fun q => (q.1, o_rV ad' q.2)) = ls.map (fun q => (q.1, o_rV ad q.2)) ∧ rest.map (o_rV ad') = rest.map (o_rV ad) := by
    intro ad' hag
    rcases hfr with hf | ⟨hf1, hf2⟩
    · have : ad' = ad := funext fun k => hag k (hf k)
      rw [this]
      exact ⟨rfl, rfl⟩
    · exact ⟨List.map_congr_left fun q hq => by rw [nr ad' q.2 hag (hf1 q hq)], List.map_congr_left fun v hv => nr ad' v hag (hf2 v hv)⟩
  have Kt : ∀ ad' : Nat → Nat, o_ag aly ad ad' → o_K l M Z p e R s m args below meth c ad' MC MS Q al post := fun ad' hag =>
    ⟨fun v n1 h1 ad1 H1 locs1 c1 s1 pc1 la1 q1 q2 => K.1 v n1 h1 ad1 H1 locs1 c1 s1 pc1 la1 q1 (o_ag.tr (bl := al) (fun k hk => hag k (fun z => hk (hal k z))) q2 (fun _ z => z)),
      fun E1 q9 ce n1 h1 ad1 H1 locs1 c1 s1 pc1 la1 rest1 q1 q2 => K.2 E1 q9 ce n1 h1 ad1 H1 locs1 c1 s1 pc1 la1 rest1 q1 (o_ag.tr (bl := al) (fun k hk => hag k (fun z => hk (hal k z))) q2 (fun _ z => z))⟩
  have Et : ∀ ad' : Nat → Nat, o_ag aly ad ad' → o_Ex Z ad' s := fun ad' hag => E.ad (fun k hk => hag k (fun z => by have := hal9 k z; omega))
  intro T hT X9
  rcases hr T hT X9 with ⟨v, st₀, t, T', Lc, hh0, X', hL, e1, e2, ⟨⟨v', n', h', ad', hv, hp, hag, hRp⟩, hF⟩, sg⟩ | ⟨q, st₀, t, T', Lc, E9, ce, hh0, X', hL, e1, e2, ⟨⟨n', h', ad', hp, hag, hRp⟩, hF⟩, hce, hcv, hcl, sg⟩
  · obtain ⟨k1, k2, k3⟩ := vx_keep (A0 := o_A Z) (A1 := o_A Z) (free := o_A Z) hh0 e1 S (fun _ _ z => z) (fun _ z => z) hL hF
    obtain ⟨w1, w2⟩ := nrl ad' hag
    have hv' : v = v'.map (o_rV ad') := by injection hv
    have k9 := k v' n' h' hp Z p e R s m args below meth c ad' T'.heap (locs ++ Lc) (cells + mcy) (slots + msy) MC MS la Q X (Et ad' hag) k3 (by rw [e1]; exact hRp) (by omega) (by omega) a3 a4 (by rw [w1]; exact L) (Kt ad' hag)
    rw [List.map_append, w2, show v'.toList.map (o_rV ad') = v.toList by rw [hv']; cases v' <;> rfl] at k9
    obtain ⟨t2, b1, b2⟩ := k9 T' rfl X'
    exact ⟨t2, sg t2 b1, b2⟩
  · obtain ⟨k1, k2, k3⟩ := vx_keep (A0 := o_A Z) (A1 := o_A Z) (free := o_A Z) hh0 e1 S (fun _ _ z => z) (fun _ z => z) hL hF
    obtain ⟨w1, w2⟩ := nrl ad' hag
    have k9 := kx E9 n' h' hp Z p e R s m args below meth c ad' T'.heap (locs ++ Lc) (cells + mcy) (slots + msy) MC MS la Q q ce (rest.map (o_rV ad)) X (Et ad' hag) k3 (by rw [e1]; exact hRp) (by omega) (by omega) a3 a4 (by rw [w1]; exact L) (Kt ad' hag) (by rw [e1]; exact hce) hcv hcl
    obtain ⟨t2, b1, b2⟩ := k9 T' rfl X'
    exact ⟨t2, sg.trans b1, b2⟩
/-- the callee's start -/
theorem o_preS {Z : o_Z} {ad : Nat → Nat} {s : State} {H : Heap} {locs : List Loc} {As : List Value} (E : o_Ex Z ad s) (S : va_S (o_A Z) s.heap H locs) (P : o_Rp Z ad n h H) : PreS s H (o_Pc Z ad As n h) (As.map (o_rV ad)) :=
  ⟨o_Pc.blind, fun U hU hW => ⟨rfl, E.mv (by rw [hU]; exact S.1) (fun a h1 h2 => by rw [hU]; exact S.2.1 a h1 h2) hW, by rw [hU]; exact P⟩⟩
/-- the words of a method that is called by its name -/
def o_yw (y : MethodName) (cw : Cond) : Prop := Cond.instanceMethod y ∈ o_gW ∧ Cond.selects y.cls y y ∈ o_gW ∧ Cond.initialized y.cls ∈ o_gW ∧ cw ∈ o_gW
def o_ys (y : MethodName) (cw : Cond) : Prop := Cond.static y ∈ o_gW ∧ Cond.initialized y.cls ∈ o_gW ∧ cw ∈ o_gW
def o_yi (y : MethodName) (cw : Cond) : Prop := Cond.instanceMethod y ∈ o_gW ∧ Cond.initialized y.cls ∈ o_gW ∧ cw ∈ o_gW
def o_yd (y : MethodName) (k : Nat) : Bool := decide (y.cls ≠ "java/lang/invoke/MethodHandle") && decide (y.cls ≠ "java/lang/invoke/VarHandle") && ((parseMethodDescriptor y.desc).map (fun d => d.parameters.length) == some k)
theorem o_yd_of {y : MethodName} {k : Nat} (h : o_yd y k = true) : y.cls ≠ "java/lang/invoke/MethodHandle" ∧ y.cls ≠ "java/lang/invoke/VarHandle" ∧ (parseMethodDescriptor y.desc).map (fun d => d.parameters.length) = some k := by
  simp only [o_yd, Bool.and_eq_true, decide_eq_true_eq, beq_iff_eq] at h
  exact ⟨h.1.1, h.1.2, h.2⟩
theorem o_callV {y : MethodName} {yb : ByteArray} {yL dy mcy msy index b ci N : Nat} {yr : Option FieldType} {aly : Nat → Prop} {posty : o_P} {T : u_T} {fs : List Value} (As : List Value) {rest : List Value}
    (hC : o_Ct l y (.code y yb yL yr) dy aly (.ref b :: As) n h mcy msy posty) (hd : decode M.2.1 pc = .ok (.invokevirtual index, 3)) (hw : Cond.methodLink M.1 index y ∈ o_gW) (hyw : o_yw y (.code y yb yL yr)) (hyd : o_yd y As.length = true) (hyL : yL ≤ 21)
    (hdy : dy < d) (hm : mcy ≤ mc) (hs : msy ≤ ms) (hb : b < n) (hh : h b = .inr (ci, fs)) (hc : o_cl[ci]? = some (y.cls, T, N)) (hst : st = As.reverse ++ .ref b :: rest) (hcat : (rest.map fun v => v.category).sum ≤ 8)
    (hal : ∀ k, aly k → al k) (hal9 : ∀ k, aly k → k < 1000000) (hfr : (∀ k, ¬ aly k) ∨ ((∀ q ∈ ls, ∀ k, q.2 = .ref k → ¬ aly k) ∧ ∀ v ∈ rest, ∀ k, v = .ref k → ¬ aly k))
    (k : ∀ v n' h', posty (.inl v) n' h' → o_V l M d al post (pc + 3) ls (v.toList ++ rest) n' h' (mc - mcy) (ms - msy))
    (kx : ∀ E n' h', posty (.inr E) n' h' → o_T l M d al post pc ls E n' h' (mc - mcy) (ms - msy)) : o_V l M d al post pc ls st n h mc ms := by
  intro Z p e R s m args below meth c ad H locs cells slots MC MS la Q X E S P a1 a2 a3 a4 L K
  obtain ⟨hx, hbb, hown, hts, hml, hr, hlk, htab, hst9, hfr9, hlo9⟩ := id X
  have hf1 : (o_rm dy mcy msy).frames + 1 ≤ R.frames := by show dy + 8 + 1 ≤ _; omega
  have hf2 : 8 + (yL + 11) + (o_rm dy mcy msy).locals ≤ R.locals := by show 8 + (yL + 11) + (40 * dy + 160) ≤ _; omega
  have cb : CallB R s args M.1 index y yb yL yr (.code y yb yL yr :: o_gW) (o_rm dy mcy msy) mcy msy As.length := callB_of (ws' := o_gW) As.length hts (o_gCode hyw.2.2.2) rfl rfl rfl (hts _ hyw.2.2.1) (hts _ hw) (o_yd_of hyd) ⟨hf1, hf2⟩
  have hrun := vx_runV (l := l) (e := e) (below := below) (meth := meth) (locs := locs) (cells := cells) (slots := slots) (H := H) (b := ad b) (As := As.map (o_rV ad)) (rest := rest.map (o_rV ad)) (C := y.cls) (Ts := o_gW) (nL := M.2.2.1) ⟨hx, hbb, hml, hown, hts⟩ (hC Z ad) ⟨cb, hts _ hyw.1, hts _ hyw.2.1⟩
    ⟨o_Pc.blind, va_recv (q0 := b) (ci := ci) E.2.1 P.1 hc (o_rW_get hb hh), (o_preS (As := .ref b :: As) E S P).2⟩ (g := F0 m pc la (st.map (o_rV ad))) rfl (by rw [List.length_map]) L.1 (by rw [hst]; simp [o_rV]) (by have := lv_room (m := m) (pc := pc) (ls := la) (rest := st.map (o_rV ad)) (st := rest.map (o_rV ad)) (by rw [o_cats]; exact hcat); exact this) hd ⟨by omega, by omega⟩
  exact o_back (dy := dy) X E S a1 a2 a3 a4 L K hm hs hal hal9 hfr hrun k kx
theorem o_callS {y : MethodName} {yb : ByteArray} {yL dy mcy msy index : Nat} {yr : Option FieldType} {aly : Nat → Prop} {posty : o_P} (As : List Value) {rest : List Value}
    (hC : o_Ct l y (.code y yb yL yr) dy aly As n h mcy msy posty) (hd : decode M.2.1 pc = .ok (.invokestatic index, 3)) (hw : Cond.methodLink M.1 index y ∈ o_gW) (hyw : o_ys y (.code y yb yL yr)) (hyd : o_yd y As.length = true) (hyL : yL ≤ 21)
    (hdy : dy < d) (hm : mcy ≤ mc) (hs : msy ≤ ms) (hst : st = As.reverse ++ rest) (hcat : (rest.map fun v => v.category).sum ≤ 8)
    (hal : ∀ k, aly k → al k) (hal9 : ∀ k, aly k → k < 1000000) (hfr : (∀ k, ¬ aly k) ∨ ((∀ q ∈ ls, ∀ k, q.2 = .ref k → ¬ aly k) ∧ ∀ v ∈ rest, ∀ k, v = .ref k → ¬ aly k))
    (k : ∀ v n' h', posty (.inl v) n' h' → o_V l M d al post (pc + 3) ls (v.toList ++ rest) n' h' (mc - mcy) (ms - msy))
    (kx : ∀ E n' h', posty (.inr E) n' h' → o_T l M d al post pc ls E n' h' (mc - mcy) (ms - msy)) : o_V l M d al post pc ls st n h mc ms := by
  intro Z p e R s m args below meth c ad H locs cells slots MC MS la Q X E S P a1 a2 a3 a4 L K
  obtain ⟨hx, hbb, hown, hts, hml, hr, hlk, htab, hst9, hfr9, hlo9⟩ := id X
  have hf1 : (o_rm dy mcy msy).frames + 1 ≤ R.frames := by show dy + 8 + 1 ≤ _; omega
  have hf2 : 8 + (yL + 11) + (o_rm dy mcy msy).locals ≤ R.locals := by show 8 + (yL + 11) + (40 * dy + 160) ≤ _; omega
  have cb : CallB R s args M.1 index y yb yL yr (.code y yb yL yr :: o_gW) (o_rm dy mcy msy) mcy msy As.length := callB_of (ws' := o_gW) As.length hts (o_gCode hyw.2.2) rfl rfl rfl (hts _ hyw.2.1) (hts _ hw) (o_yd_of hyd) ⟨hf1, hf2⟩
  have hrun := vx_runS (l := l) (e := e) (below := below) (meth := meth) (locs := locs) (cells := cells) (slots := slots) (H := H) (As := As.map (o_rV ad)) (rest := rest.map (o_rV ad)) (Ts := o_gW) (nL := M.2.2.1) ⟨hx, hbb, hml, hown, hts⟩ (hC Z ad) ⟨cb, hts _ hyw.1⟩
    (o_preS E S P) (g := F0 m pc la (st.map (o_rV ad))) rfl (by rw [List.length_map]) L.1 (by rw [hst]; simp) (by have := lv_room (m := m) (pc := pc) (ls := la) (rest := st.map (o_rV ad)) (st := rest.map (o_rV ad)) (by rw [o_cats]; exact hcat); exact this) hd ⟨by omega, by omega⟩
  exact o_back (dy := dy) X E S a1 a2 a3 a4 L K hm hs hal hal9 hfr hrun k kx
end OC
/-! the usual ends: an answer and a heap; an exception and a heap -/
def o_no : Nat → Prop := fun _ => False
def o_is (v : Option Value) (n : Nat) (h : Nat → o_C) : o_P := fun o n' h' => o = .inl v ∧ n' = n ∧ h' = h
def o_thr (E : String) (n : Nat) (h : Nat → o_C) : o_P := fun o n' h' => o = .inr E ∧ n' = n ∧ h' = h
section OC2
variable {l : Launch} {M : o_M} {d : Nat} {al : Nat → Prop} {post : o_P} {pc : Nat} {ls : List (Nat × Value)} {st : List Value} {n : Nat} {h : Nat → o_C} {mc ms : Nat}
/-- a call that answers v, makes nothing -/
theorem o_cV {y : MethodName} {yb : ByteArray} {yL dy index b ci N : Nat} {yr : Option FieldType} {T : u_T} {fs : List Value} (As : List Value) {rest : List Value} {v : Option Value} {h' : Nat → o_C}
    (hC : o_Ct l y (.code y yb yL yr) dy o_no (.ref b :: As) n h 0 0 (o_is v n h')) (hd : decode M.2.1 pc = .ok (.invokevirtual index, 3)) (hw : Cond.methodLink M.1 index y ∈ o_gW) (hyw : o_yw y (.code y yb yL yr)) (hyd : o_yd y As.length = true) (hyL : yL ≤ 21)
    (hdy : dy < d) (hb : b < n) (hh : h b = .inr (ci, fs)) (hc : o_cl[ci]? = some (y.cls, T, N)) (hst : st = As.reverse ++ .ref b :: rest) (hcat : (rest.map fun v => v.category).sum ≤ 8)
    (k : o_V l M d al post (pc + 3) ls (v.toList ++ rest) n h' mc ms) : o_V l M d al post pc ls st n h mc ms :=
  o_callV As hC hd hw hyw hyd hyL hdy (Nat.zero_le _) (Nat.zero_le _) hb hh hc hst hcat (fun _ z => z.elim) (fun _ z => z.elim) (Or.inl fun _ z => z) (fun v' n' h9 q => by obtain ⟨q1, rfl, rfl⟩ := q; cases q1; exact k) (fun E n' h9 q => by cases q.1)
theorem o_cS {y : MethodName} {yb : ByteArray} {yL dy index : Nat} {yr : Option FieldType} (As : List Value) {rest : List Value} {v : Option Value} {h' : Nat → o_C}
    (hC : o_Ct l y (.code y yb yL yr) dy o_no As n h 0 0 (o_is v n h')) (hd : decode M.2.1 pc = .ok (.invokestatic index, 3)) (hw : Cond.methodLink M.1 index y ∈ o_gW) (hyw : o_ys y (.code y yb yL yr)) (hyd : o_yd y As.length = true) (hyL : yL ≤ 21)
    (hdy : dy < d) (hst : st = As.reverse ++ rest) (hcat : (rest.map fun v => v.category).sum ≤ 8)
    (k : o_V l M d al post (pc + 3) ls (v.toList ++ rest) n h' mc ms) : o_V l M d al post pc ls st n h mc ms :=
  o_callS As hC hd hw hyw hyd hyL hdy (Nat.zero_le _) (Nat.zero_le _) hst hcat (fun _ z => z.elim) (fun _ z => z.elim) (Or.inl fun _ z => z) (fun v' n' h9 q => by obtain ⟨q1, rfl, rfl⟩ := q; cases q1; exact k) (fun E n' h9 q => by cases q.1)
/-- a call that throws E -/
theorem o_cVx {y : MethodName} {yb : ByteArray} {yL dy mcy msy index b ci N : Nat} {yr : Option FieldType} {T : u_T} {fs : List Value} (As : List Value) {rest : List Value} {E : String} {h' : Nat → o_C}
    (hC : o_Ct l y (.code y yb yL yr) dy o_no (.ref b :: As) n h mcy msy (o_thr E n h')) (hd : decode M.2.1 pc = .ok (.invokevirtual index, 3)) (hw : Cond.methodLink M.1 index y ∈ o_gW) (hyw : o_yw y (.code y yb yL yr)) (hyd : o_yd y As.length = true) (hyL : yL ≤ 21)
    (hdy : dy < d) (hm : mcy ≤ mc) (hs : msy ≤ ms) (hb : b < n) (hh : h b = .inr (ci, fs)) (hc : o_cl[ci]? = some (y.cls, T, N)) (hst : st = As.reverse ++ .ref b :: rest) (hcat : (rest.map fun v => v.category).sum ≤ 8)
    (k : o_T l M d al post pc ls E n h' (mc - mcy) (ms - msy)) : o_V l M d al post pc ls st n h mc ms :=
  o_callV As hC hd hw hyw hyd hyL hdy hm hs hb hh hc hst hcat (fun _ z => z.elim) (fun _ z => z.elim) (Or.inl fun _ z => z) (fun v' n' h9 q => by cases q.1) (fun E n' h9 q => by obtain ⟨q1, rfl, rfl⟩ := q; cases q1; exact k)
theorem o_cSx {y : MethodName} {yb : ByteArray} {yL dy mcy msy index : Nat} {yr : Option FieldType} (As : List Value) {rest : List Value} {E : String} {h' : Nat → o_C}
    (hC : o_Ct l y (.code y yb yL yr) dy o_no As n h mcy msy (o_thr E n h')) (hd : decode M.2.1 pc = .ok (.invokestatic index, 3)) (hw : Cond.methodLink M.1 index y ∈ o_gW) (hyw : o_ys y (.code y yb yL yr)) (hyd : o_yd y As.length = true) (hyL : yL ≤ 21)
    (hdy : dy < d) (hm : mcy ≤ mc) (hs : msy ≤ ms) (hst : st = As.reverse ++ rest) (hcat : (rest.map fun v => v.category).sum ≤ 8)
    (k : o_T l M d al post pc ls E n h' (mc - mcy) (ms - msy)) : o_V l M d al post pc ls st n h mc ms :=
  o_callS As hC hd hw hyw hyd hyL hdy hm hs hst hcat (fun _ z => z.elim) (fun _ z => z.elim) (Or.inl fun _ z => z) (fun v' n' h9 q => by cases q.1) (fun E n' h9 q => by obtain ⟨q1, rfl, rfl⟩ := q; cases q1; exact k)
/-- 'throw new E("text")' -/
theorem o_throw {cls text : String} {names : List String} {ik is ic ci sn : Nat} (hd0 : decode M.2.1 pc = .ok (.new ik, 3)) (hd3 : decode M.2.1 (pc + 3) = .ok (.dup, 1)) (hd4 : decode M.2.1 (pc + 4) = .ok (.ldc is, 2)) (hd6 : decode M.2.1 (pc + 6) = .ok (.invokespecial ic, 3)) (hd9 : decode M.2.1 (pc + 9) = .ok (.athrow, 1))
    (hcls : Bundle.fit cls = true) (hnames : ∀ n ∈ names, Bundle.fit n = true) (hnl : names.length ≤ 3) (hk : Cond.classLink M.1 ik cls ∈ o_gW) (hini : Cond.initialized cls ∈ o_gW) (hex : cls ∈ o_exs) (hat : ∀ w ∈ vx_atS M.1 ic cls names, w = .castable cls cls ∨ (∃ y ∈ o_dcl, w = .declares y) ∨ w ∈ o_gW) (hgood : ∀ w ∈ Cond.classLink M.1 ik cls :: Cond.initialized cls :: vx_atS M.1 ic cls names, vx_ot w = true)
    (hs9 : (M.1, is, text, sn) ∈ o_str) (hc : o_cl[ci]? = some (cls, o_T0, 0)) (hT : M.2.2.2.2.1 = []) (hmc : 1 ≤ mc) (hms : 6 ≤ ms) (hcat : (st.map fun v => v.category).sum ≤ 8) (hp : post (.inr cls) n h) : o_V l M d al post pc ls st n h mc ms := by
  intro Z p e R s m args below meth c ad H locs cells slots MC MS la Q X E S P a1 a2 a3 a4 L K
  obtain ⟨hx, hbb, hown, hts, hml, hr, hlk, htab, hst9, hfr9, hlo9⟩ := id X
  obtain ⟨e1, e2, ⟨e3, e4, e34, e35, e36⟩, e5, ⟨⟨e6, e7, e67⟩, e68⟩, e8⟩ := id E
  have hatb : ∀ w ∈ vx_atS M.1 ic cls names, w.before args s = true := fun w hw => (hat w hw).elim (fun q => by rw [q]; exact (e34 _ hex).use rfl) (fun q => q.elim (fun ⟨y, hy, q⟩ => by rw [q]; exact (e36 y hy).use rfl) (fun q => hts _ q))
  have h11 : names.length + 3 < R.frames := by omega
  have h12 : ((st.map (o_rV ad)).map fun v => v.category).sum + (13 * (names.length + 1) + 43) ≤ R.locals := by rw [o_cats]; omega
  refine vx_makeS (D := Z.2.1) (cl := o_cl) (tys := o_tys Z) (ws := o_rW ad Z.2.2.1 n h) (A := o_A Z) (T0 := o_T0) (ci := ci) hx hbb hst9 hown hcls hnames (hts _ hk) (hts _ hini) (e5 _ hs9) hatb hgood e6 e7 S (L.1.trans hml.symm) hd0 hd3 hd4 hd6 e2 P.1 P.2 e1.2 hc h11 h12 (by omega) (by omega) (fun q H1 hP hD hS => ?_)
  refine vx_athrow hx hbb hd9 ?_
  have hcell := hP n (q, .inr (ci, [])) (by simp [o_rW])
  obtain ⟨r, hr9, cell, g1, g2, g3, -⟩ := hcell
  cases Option.some.inj (hr9.symm.trans hc)
  exact K.2 cls q cell n h ad H1 locs (cells + 1) (slots + 6) (pc + 9) la (st.map (o_rV ad)) hp o_ag.rf ⟨hP.left, hD.left⟩ hS (by omega) (by omega) hT g1 g3 (by rw [g2]; exact (e2.1 ci _ hc).2.1)
end OC2
