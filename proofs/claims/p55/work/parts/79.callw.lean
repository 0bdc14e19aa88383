/-! the law calls its helpers -/
theorem o_met {l : Launch} {y : MethodName} {ws : List Cond} {rm : Room} {Pc : Array Value → State → Prop} {Qc : Array Value → State → Outcome → State → Prop} {XC : String → State → State → Prop} {mc ms : Nat} {free : Addr → Prop} (hC : vx_Met l y ws rm Pc Qc XC mc ms free) (hx : ∀ E st t, ¬ XC E st t) : Met l y ws rm Pc Qc mc ms free := by
  intro p e a1 a2 a3 s m args below h1 h2 h3 h4
  obtain ⟨n, o, b1, b2, b3, b4⟩ := hC p e a1 a2 a3 s m args below h1 h2 h3 h4
  refine ⟨n, o, b1, b2, b3, ?_⟩
  rcases b4 with b | ⟨q, -, E, ce, L, hX, -⟩
  · exact b
  · exact absurd hX (hx _ _ _)
section OCW
variable {l : Launch} {M : o_M} {d : Nat} {al : Nat → Prop} {post : o_P} {pc : Nat} {ls : List (Nat × Value)} {st : List Value} {n : Nat} {h : Nat → o_C} {mc ms : Nat}
/-- a static method with handlers, that doesn't throw -/
theorem o_callSW {y : MethodName} {yb : ByteArray} {yL dy mcy msy index : Nat} {yr : Option FieldType} {yh : List (Nat × Nat × Nat × Nat)} {aly : Nat → Prop} {posty : o_P} (As : List Value) {rest : List Value}
    (hC : o_Ct l y (.codeWith y yb yL yr yh) dy aly As n h mcy msy posty) (hno : ∀ E n' h', ¬ posty (.inr E) n' h') (hd : decode M.2.1 pc = .ok (.invokestatic index, 3)) (hw : Cond.methodLink M.1 index y ∈ o_gW) (hyw : o_ys y (.codeWith y yb yL yr yh)) (hyd : o_yd y As.length = true) (hyL : yL ≤ 21)
    (hdy : dy < d) (hm : mcy ≤ mc) (hs : msy ≤ ms) (hst : st = As.reverse ++ rest) (hcat : (rest.map fun v => v.category).sum ≤ 8)
    (hal : ∀ k, aly k → al k) (hal9 : ∀ k, aly k → k < 1000000) (hfr : (∀ k, ¬ aly k) ∨ ((∀ q ∈ ls, ∀ k, q.2 = .ref k → ¬ aly k) ∧ ∀ v ∈ rest, ∀ k, v = .ref k → ¬ aly k))
    (k : ∀ v n' h', posty (.inl v) n' h' → o_V l M d al post (pc + 3) ls (v.toList ++ rest) n' h' (mc - mcy) (ms - msy)) : o_V l M d al post pc ls st n h mc ms := by
  intro Z p e R s m args below meth c ad H locs cells slots MC MS la Q X E S P a1 a2 a3 a4 L K
  obtain ⟨hx, hbb, hown, hts, hml, hr, hlk, htab, hst9, hfr9, hlo9⟩ := id X
  have hf1 : (o_rm dy mcy msy).frames + 1 ≤ R.frames := by show dy + 8 + 1 ≤ _; omega
  have hf2 : 8 + (yL + 11) + (o_rm dy mcy msy).locals ≤ R.locals := by show 8 + (yL + 11) + (40 * dy + 160) ≤ _; omega
  have hT3 : ∀ w ∈ ([Cond.methodLink M.1 index y, Cond.static y, Cond.initialized y.cls] : List Cond), w ∈ o_gW := fun w hw9 => by
    simp only [List.mem_cons, List.not_mem_nil, or_false] at hw9
    rcases hw9 with rfl | rfl | rfl
    · exact hw
    · exact hyw.1
    · exact hyw.2.1
  have cb : vx_CSW R s args M.1 index y yb yL yr yh (.codeWith y yb yL yr yh :: o_gW) (o_rm dy mcy msy) mcy msy As.length := vx_cwSW (ws' := o_gW) (Ts := o_gW) As.length hts (fun w hw9 => (List.mem_append.mp hw9).elim (fun q => o_gIn (ws := [Cond.methodLink M.1 index y, Cond.static y, Cond.initialized y.cls]) hT3 w q) (fun q => o_gCode hyw.2.2 w q)) rfl rfl rfl (o_yd_of hyd) ⟨hf1, hf2⟩
  have hrun := vx_runSW (l := l) (e := e) (below := below) (meth := meth) (locs := locs) (cells := cells) (slots := slots) (H := H) (As := As.map (o_rV ad)) (rest := rest.map (o_rV ad)) (Ts := o_gW) (nL := M.2.2.1) ⟨hx, hbb, hml, hown, hts⟩ (o_met (hC Z ad) (fun E9 st9 t9 q => by obtain ⟨⟨n9, h9, ad9, q9, -⟩, -⟩ := q; exact hno _ _ _ q9)) cb
    (o_preS E S P) (g := F0 m pc la (st.map (o_rV ad))) rfl (by rw [List.length_map]) L.1 (by rw [hst]; simp) (by have := lv_room (m := m) (pc := pc) (ls := la) (rest := st.map (o_rV ad)) (st := rest.map (o_rV ad)) (by rw [o_cats]; exact hcat); exact this) hd ⟨by omega, by omega⟩
  exact o_back (dy := dy) (posty := posty) (aly := aly) X E S a1 a2 a3 a4 L K hm hs hal hal9 hfr (fun T hT9 X9 => Or.inl (hrun T hT9 X9)) k (fun E9 n9 h9 q => absurd q (hno _ _ _))
end OCW
