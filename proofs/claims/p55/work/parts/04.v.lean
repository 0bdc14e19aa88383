/-! the judgement o_V: over abstract frames and heaps -/
abbrev o_O : Type := Option Value ⊕ String
/-- a method: its class, code, locals, answer, handlers -/
abbrev o_M : Type := String × ByteArray × Nat × Option FieldType × List (Nat × Nat × Nat × Nat) × String
abbrev o_P : Type := o_O → Nat → (Nat → o_C) → Prop
def o_ri : Option FieldType → Instr
  | none => .return_
  | some .long => .lreturn
  | some .float => .freturn
  | some .double => .dreturn
  | some (.object _) => .areturn
  | some (.array _) => .areturn
  | some _ => .ireturn
/-- what a method may answer -/
def o_rok : Option FieldType → Option Value → Prop
  | none, none => True
  | some .long, some (.long _) => True
  | some .float, some (.float _) => True
  | some .double, some (.double _) => True
  | some (.object _), some v => v = .null ∨ ∃ a, v = .ref a
  | some (.array _), some v => v = .null ∨ ∃ a, v = .ref a
  | some .int, some (.int _) => True
  | some .boolean, some (.int x) => narrow .boolean (.int x) = .int x
  | some .char, some (.int x) => narrow .char (.int x) = .int x
  | some .byte, some (.int x) => narrow .byte (.int x) = .int x
  | _, _ => False
/-- the addresses that may have moved -/
def o_ag (al : Nat → Prop) (ad ad' : Nat → Nat) : Prop := ∀ k : Nat, ¬ al k → ad' k = ad k
theorem o_ag.rf {al : Nat → Prop} {ad : Nat → Nat} : o_ag al ad ad := fun _ _ => rfl
theorem o_ag.tr {al bl : Nat → Prop} {a b c : Nat → Nat} (h1 : o_ag al a b) (h2 : o_ag bl b c) (hs : ∀ k, bl k → al k) : o_ag al a c := fun k hk => (h2 k (fun z => hk (hs k z))).trans (h1 k hk)
/-- the walk's fixed things -/
def o_X (l : Launch) (M : o_M) (d : Nat) (p : Program) (R : Room) (s : State) (m : MethodId) (args : Array Value) (meth : Method) (c : Code) : Prop :=
  p.tables.exec = Jvm.exec ∧ c.code = M.2.1 ∧ s.vm.findClass M.1 = some m.cls ∧ (∀ w ∈ o_gW, w.before args s = true) ∧ c.maxLocals = M.2.2.1 ∧ meth.sig.returnType = M.2.2.2.1 ∧ meth.locks = false ∧ (c.exceptionTable.toList = tableOf M.2.2.2.2.1 ∧ (M.2.2.2.2.2 = "<init>" → meth.name = "<init>")) ∧ l.stackTraces = false ∧ d + 8 ≤ R.frames ∧ 40 * d + 160 ≤ R.locals
/-- what is owed where the method ends -/
def o_K (l : Launch) (M : o_M) (Z : o_Z) (p : Program) (e : Env) (R : Room) (s : State) (m : MethodId) (args : Array Value) (below : List Frame) (meth : Method) (c : Code) (ad : Nat → Nat) (MC MS : Nat) (Q : State → Prop) (al : Nat → Prop) (post : o_P) : Prop :=
  (∀ (v : Option Value) (n : Nat) (h : Nat → o_C) (ad' : Nat → Nat) (H : Heap) (locs : List Loc) (cells slots pc : Nat) (la : Array Slot), post (.inl v) n h → o_ag al ad ad' → o_Rp Z ad' n h H → va_S (o_A Z) s.heap H locs → cells ≤ MC → slots ≤ MS → decode M.2.1 pc = .ok (o_ri M.2.2.2.1, 1) → o_rok M.2.2.2.1 v → W p l e R s m args below meth c H locs cells slots Q (F0 m pc la (v.toList.map (o_rV ad')))) ∧
  (∀ (E : String) (q : Addr) (ce : Cell) (n : Nat) (h : Nat → o_C) (ad' : Nat → Nat) (H : Heap) (locs : List Loc) (cells slots pc : Nat) (la : Array Slot) (rest : List Value), post (.inr E) n h → o_ag al ad ad' → o_Rp Z ad' n h H → va_S (o_A Z) s.heap H locs → cells ≤ MC → slots ≤ MS → M.2.2.2.2.1 = [] → H[q]? = some ce → ce.vm = .none → s.vm.findClass E = some ce.cls → vx_W p l e R s m args below meth c H locs cells slots Q (F0 m pc la rest) q)
def o_V (l : Launch) (M : o_M) (d : Nat) (al : Nat → Prop) (post : o_P) (pc : Nat) (ls : List (Nat × Value)) (st : List Value) (n : Nat) (h : Nat → o_C) (mc ms : Nat) : Prop :=
  ∀ (Z : o_Z) (p : Program) (e : Env) (R : Room) (s : State) (m : MethodId) (args : Array Value) (below : List Frame) (meth : Method) (c : Code) (ad : Nat → Nat) (H : Heap) (locs : List Loc) (cells slots MC MS : Nat) (la : Array Slot) (Q : State → Prop),
    o_X l M d p R s m args meth c → o_Ex Z ad s → va_S (o_A Z) s.heap H locs → o_Rp Z ad n h H → cells + mc ≤ MC → slots + ms ≤ MS → MC ≤ R.cells → MS ≤ R.slots → lv_has la M.2.2.1 (ls.map (fun q => (q.1, o_rV ad q.2))) →
    o_K l M Z p e R s m args below meth c ad MC MS Q al post →
    W p l e R s m args below meth c H locs cells slots Q (F0 m pc la (st.map (o_rV ad)))
section OV
variable {l : Launch} {M : o_M} {d : Nat} {al : Nat → Prop} {post : o_P} {pc : Nat} {ls : List (Nat × Value)} {st : List Value} {n : Nat} {h : Nat → o_C} {mc ms : Nat}
/-- local variables: the first row of its number -/
def o_get (ls : List (Nat × Value)) (i : Nat) : Option Value := match ls with
  | [] => none
  | q :: r => if q.1 = i then some q.2 else o_get r i
def o_set (nL : Nat) (ls : List (Nat × Value)) (i : Nat) (v : Value) : List (Nat × Value) := match ls with
  | [] => [(i, v)]
  | q :: r => if q.1 = i then (i, v) :: r else q :: o_set nL r i v
theorem o_get_mem {ls : List (Nat × Value)} {i : Nat} {v : Value} (h : o_get ls i = some v) : (i, v) ∈ ls := by
  induction ls with
  | nil => cases h
  | cons q r ih =>
    unfold o_get at h
    by_cases e : q.1 = i
    · rw [if_pos e] at h
      cases h
      rw [← e]
      exact List.mem_cons_self
    · rw [if_neg e] at h
      exact List.mem_cons_of_mem _ (ih h)
theorem o_lat {la : Array Slot} {nL : Nat} {ad : Nat → Nat} {i : Nat} {v : Value} (hl : lv_has la nL (ls.map (fun q => (q.1, o_rV ad q.2)))) (hg : o_get ls i = some v) : la[i]? = some (.val (o_rV ad v)) :=
  hl.2.2 (i, o_rV ad v) (List.mem_map.mpr ⟨_, o_get_mem hg, rfl⟩)
end OV
