/-! contracts, calls, throws -/
def o_rm (d mc ms : Nat) : Room := { frames := d + 8, cells := mc, slots := ms, locals := 40 * d + 160 }
def o_Pc (Z : o_Z) (ad : Nat → Nat) (av : List Value) (n : Nat) (h : Nat → o_C) : Array Value → State → Prop := va_Pc (av.map (o_rV ad)) (fun U => o_Ex Z ad U ∧ o_Rp Z ad n h U.heap)
def o_Qc (Z : o_Z) (ad : Nat → Nat) (al : Nat → Prop) (post : o_P) : Array Value → State → Outcome → State → Prop := fun _ st oc t =>
  (∃ (v : Option Value) (n' : Nat) (h' : Nat → o_C) (ad' : Nat → Nat), oc = .returned (v.map (o_rV ad')) ∧ post (.inl v) n' h' ∧ o_ag al ad ad' ∧ o_Rp Z ad' n' h' t.heap) ∧ va_F (o_A Z) st t
def o_XC (Z : o_Z) (ad : Nat → Nat) (al : Nat → Prop) (post : o_P) : String → State → State → Prop := fun E st t =>
  (∃ (n' : Nat) (h' : Nat → o_C) (ad' : Nat → Nat), post (.inr E) n' h' ∧ o_ag al ad ad' ∧ o_Rp Z ad' n' h' t.heap) ∧ va_F (o_A Z) st t
/-- the contract: called with av in the heap h, y ends as post says, with at most mc new cells of ms slots; d: how deep it calls -/
def o_Ct (l : Launch) (y : MethodName) (cw : Cond) (d : Nat) (al : Nat → Prop) (av : List Value) (n : Nat) (h : Nat → o_C) (mc ms : Nat) (post : o_P) : Prop :=
  ∀ (Z : o_Z) (ad : Nat → Nat), vx_Met l y (cw :: o_gW) (o_rm d mc ms) (o_Pc Z ad av n h) (o_Qc Z ad al post) (o_XC Z ad al post) mc ms (o_A Z)
theorem o_Pc.blind {Z : o_Z} {ad : Nat → Nat} {av : List Value} {n : Nat} {h : Nat → o_C} : FrameBlind (o_Pc Z ad av n h) := fun a U g mk q => ⟨q.1, q.2.1.vm (U := U.calling g mk a) rfl rfl, q.2.2⟩
theorem o_args (ad : Nat → Nat) (av : List Value) : ∀ i : Nat, lv_args i (av.map (o_rV ad)) = (lv_args i av).map (fun q => (q.1, o_rV ad q.2)) := by
  induction av with
  | nil => intro i; rfl
  | cons v av ih =>
    intro i
    simp only [List.map_cons, lv_args, o_cat, ih]
theorem o_argl (ad : Nat → Nat) (av : List Value) : (lg_sl (av.map (o_rV ad))).length = (lg_sl av).length := by
  induction av with
  | nil => rfl
  | cons v av ih =>
    simp only [lg_sl, List.map_cons, List.flatMap_cons, List.length_append, o_cat] at ih ⊢
    rw [ih]
    split <;> rfl
theorem o_Kof {l : Launch} {M : o_M} {Z : o_Z} {p : Program} {e : Env} {R : Room} {s : State} {m : MethodId} {args : Array Value} {below : List Frame} {meth : Method} {c : Code} {ad : Nat → Nat} {mc ms : Nat} {al : Nat → Prop} {post : o_P}
    (hx : p.tables.exec = Jvm.exec) (hb : c.code = M.2.1) (hr : meth.sig.returnType = M.2.2.2.1) (hlocks : meth.locks = false) (ht : c.exceptionTable.toList = tableOf M.2.2.2.2.1) :
    o_K l M Z p e R s m args below meth c ad mc ms (vx_MQ below (o_Qc Z ad al post) (o_XC Z ad al post) args s mc ms (o_A Z)) al post := by
  refine ⟨fun v n h ad' H locs cells slots pc la hp hag hR hS hc hs hd hk => ?_, fun E q ce n h ad' H locs cells slots pc la rest hp hag hR hS hc hs hM hce hcv hcl => ?_⟩
  · refine vx_ret (W.widen hc hs ?_)
    have hq : ∀ (w : Option Value), w = v.map (o_rV ad') → ∀ t : State, t.heap = H → s.WarmedH t.vm → o_Qc Z ad al post args s (.returned w) t := fun w hw t ht9 hW => ⟨⟨v, n, h, ad', by rw [hw], hp, hag, by rw [ht9]; exact hR⟩, hS.F ht9⟩
    cases hret : M.2.2.2.1 with
    | none =>
      rw [hret] at hk hd hr
      cases v with
      | some v => exact hk.elim
      | none => exact W.vret hx hb hr (hq none rfl) hS.2.2 hd hlocks
    | some ty =>
      rw [hret] at hk hd hr
      cases v with
      | none => cases ty <;> exact hk.elim
      | some v =>
        cases ty with
        | int => cases v <;> first | exact hk.elim | exact W.iret hx hb hr (hq _ rfl) hS.2.2 hd hlocks
        | boolean => cases v <;> first | exact hk.elim | exact W.zret hx hb hr hk (hq _ rfl) hS.2.2 hd hlocks
        | char => cases v <;> first | exact hk.elim | exact W.zret hx hb hr hk (hq _ rfl) hS.2.2 hd hlocks
        | byte => cases v <;> first | exact hk.elim | exact W.zret hx hb hr hk (hq _ rfl) hS.2.2 hd hlocks
        | short => cases v <;> exact hk.elim
        | long => cases v <;> first | exact hk.elim | exact W.lret hx hb hr (hq _ rfl) hS.2.2 hd hlocks
        | float => cases v <;> first | exact hk.elim | exact W.fret hx hb hr (hq _ rfl) hS.2.2 hd hlocks
        | double => cases v <;> first | exact hk.elim | exact W.dret hx hb hr (hq _ rfl) hS.2.2 hd hlocks
        | object nm =>
          have hv : o_rV ad' v = .null ∨ ∃ a, o_rV ad' v = .ref a := by
            rcases hk with rfl | ⟨a, rfl⟩
            · exact Or.inl rfl
            · exact Or.inr ⟨_, rfl⟩
          exact W.aret hx hb hr (Or.inl ⟨_, rfl⟩) hv (hq _ rfl) hS.2.2 hd hlocks
        | array t9 =>
          have hv : o_rV ad' v = .null ∨ ∃ a, o_rV ad' v = .ref a := by
            rcases hk with rfl | ⟨a, rfl⟩
            · exact Or.inl rfl
            · exact Or.inr ⟨_, rfl⟩
          exact W.aret hx hb hr (Or.inr ⟨_, rfl⟩) hv (hq _ rfl) hS.2.2 hd hlocks
  · refine vx_out (E := E) (ce := ce) (fun x hx9 => ?_) hlocks hce hcv hcl (fun t ht9 hW => ⟨⟨n, h, ad', hp, hag, by rw [ht9]; exact hR⟩, hS.F ht9⟩) hS.2.2 hc hs
    rw [ht, hM] at hx9
    exact absurd hx9 List.not_mem_nil
/-- a method's contract out of a walk of its body -/
theorem o_Ct.ofV {l : Launch} (hl : l.stackTraces = false) {y : MethodName} (M : o_M) {d mc ms n : Nat} {al : Nat → Prop} {av : List Value} {h : Nat → o_C} {post : o_P} (hy : plainName y.cls = true) (hM : M.1 = y.cls) (hnm : M.2.2.2.2.2 = y.name) (hT : M.2.2.2.2.1 = []) (hn : (lg_sl av).length ≤ M.2.2.1)
    (k : o_V l M d al post 0 (lv_args 0 av) [] n h mc ms) : o_Ct l y (.code y M.2.1 M.2.2.1 M.2.2.2.1) d al av n h mc ms post := by
  intro Z ad
  refine vx_ofW (cc := M.2.1) (maxL := M.2.2.1) (ret := M.2.2.2.1) hy rfl ?_
  intro p e s m args below meth c s₁ B hml ht hv
  obtain ⟨rfl, hE, hR⟩ := hv
  have htab : c.exceptionTable.toList = tableOf M.2.2.2.2.1 := by
    rw [hT]
    exact List.eq_nil_iff_forall_not_mem.mpr ht
  have hts := atoms_spec (ws := Cond.code y M.2.1 M.2.2.1 M.2.2.2.1 :: o_gW) B.pre
  have hl0 := lv_entry (av.map (o_rV ad)) (n := M.2.2.1) (by rw [o_argl]; exact hn)
  rw [lg_entry_eq]
  rw [o_args] at hl0
  exact k Z p e _ s m _ below meth c ad s.heap [] 0 0 mc ms _ _ ⟨B.exec, B.bytes, by rw [hM]; exact findClass_of_methodNamed B.named, fun w hw => hts w (List.mem_cons_of_mem _ hw), hml, B.returns, B.notSynchronized, ⟨htab, fun q => (name_of_methodNamed B.named B.method).1.trans (hnm.symm.trans q)⟩, hl, Nat.le_refl _, Nat.le_refl _⟩ hE va_S.rf hR (by omega) (by omega) (Nat.le_refl _) (Nat.le_refl _) hl0
    (o_Kof (l := l) B.exec B.bytes B.returns B.notSynchronized htab)
/-- .. of one with handlers -/
theorem o_Ct.ofVH {l : Launch} (hl : l.stackTraces = false) {y : MethodName} (M : o_M) {d mc ms n : Nat} {al : Nat → Prop} {av : List Value} {h : Nat → o_C} {post : o_P} (hy : plainName y.cls = true) (hM : M.1 = y.cls) (hnm : M.2.2.2.2.2 = y.name) (hn : (lg_sl av).length ≤ M.2.2.1)
    (k : o_V l M d al post 0 (lv_args 0 av) [] n h mc ms) : o_Ct l y (.codeWith y M.2.1 M.2.2.1 M.2.2.2.1 M.2.2.2.2.1) d al av n h mc ms post := by
  intro Z ad
  refine vx_ofWH (cc := M.2.1) (maxL := M.2.2.1) (ret := M.2.2.2.1) (hh := M.2.2.2.2.1) hy rfl ?_
  intro p e s m args below meth c s₁ B hml hv
  obtain ⟨rfl, hE, hR⟩ := hv
  have hts := atoms_spec (ws := Cond.codeWith y M.2.1 M.2.2.1 M.2.2.2.1 M.2.2.2.2.1 :: o_gW) B.pre
  have htab : c.exceptionTable.toList = tableOf M.2.2.2.2.1 := vx_table (x := y) B (hts _ List.mem_cons_self)
  have hl0 := lv_entry (av.map (o_rV ad)) (n := M.2.2.1) (by rw [o_argl]; exact hn)
  rw [lg_entry_eq]
  rw [o_args] at hl0
  exact k Z p e _ s m _ below meth c ad s.heap [] 0 0 mc ms _ _ ⟨B.exec, B.bytes, by rw [hM]; exact findClass_of_methodNamed B.named, fun w hw => hts w (List.mem_cons_of_mem _ hw), hml, B.returns, B.notSynchronized, ⟨htab, fun q => (name_of_methodNamed B.named B.method).1.trans (hnm.symm.trans q)⟩, hl, Nat.le_refl _, Nat.le_refl _⟩ hE va_S.rf hR (by omega) (by omega) (Nat.le_refl _) (Nat.le_refl _) hl0
    (o_Kof (l := l) B.exec B.bytes B.returns B.notSynchronized htab)
/-- weaker ends -/
theorem o_Ct.wk {l : Launch} {y : MethodName} {cw : Cond} {d mc ms n : Nat} {al : Nat → Prop} {av : List Value} {h : Nat → o_C} {post post' : o_P} (hC : o_Ct l y cw d al av n h mc ms post) (hw : ∀ o n' h', post o n' h' → post' o n' h') : o_Ct l y cw d al av n h mc ms post' := by
  intro Z ad p e h1 h2 h3 s m args below h4 h5 h6 h7
  obtain ⟨k, o, a1, a2, a3, a4⟩ := hC Z ad p e h1 h2 h3 s m args below h4 h5 h6 h7
  refine ⟨k, o, a1, a2, a3, ?_⟩
  rcases a4 with ⟨⟨⟨v, n', h', ad', b1, b2, b3⟩, b4⟩, b5⟩ | ⟨q, b1, E, ce, L, ⟨⟨n', h', ad', b2, b3⟩, b4⟩, b5⟩
  · exact Or.inl ⟨⟨⟨v, n', h', ad', b1, hw _ _ _ b2, b3⟩, b4⟩, b5⟩
  · exact Or.inr ⟨q, b1, E, ce, L, ⟨⟨n', h', ad', hw _ _ _ b2, b3⟩, b4⟩, b5⟩
