/-! a row for each plain instruction -/
section OR
variable {l : Launch} {M : o_M} {d : Nat} {al : Nat → Prop} {post : o_P} {pc : Nat} {ls : List (Nat × Value)} {st : List Value} {n : Nat} {h : Nat → o_C} {mc ms : Nat}
def o_s1 (ls : List (Nat × Value)) (i : Nat) (v : Value) : List (Nat × Value) := (i, v) :: ls.filter (fun q => !(q.1 == i) && !(q.1 + 1 == i && q.2.category == 2))
def o_s2 (ls : List (Nat × Value)) (i : Nat) (v : Value) : List (Nat × Value) := (i, v) :: ls.filter (fun q => !(q.1 == i) && (!(q.1 == i + 1) && !(q.1 + 1 == i && q.2.category == 2)))
theorem o_s1_map (ad : Nat → Nat) {i : Nat} {v : Value} : (o_s1 ls i v).map (fun q => (q.1, o_rV ad q.2)) = (i, o_rV ad v) :: (ls.map (fun q => (q.1, o_rV ad q.2))).filter (fun q => !(q.1 == i) && !(q.1 + 1 == i && q.2.category == 2)) := by
  simp only [o_s1, List.map_cons, List.filter_map, Function.comp_def, o_cat]
theorem o_s2_map (ad : Nat → Nat) {i : Nat} {v : Value} : (o_s2 ls i v).map (fun q => (q.1, o_rV ad q.2)) = (i, o_rV ad v) :: (ls.map (fun q => (q.1, o_rV ad q.2))).filter (fun q => !(q.1 == i) && (!(q.1 == i + 1) && !(q.1 + 1 == i && q.2.category == 2))) := by
  simp only [o_s2, List.map_cons, List.filter_map, Function.comp_def, o_cat]
theorem o_R0 : o_R 0 := ⟨by decide, by decide⟩
theorem o_nz {b : Int} (hb : o_R b) (h0 : 0 < b) : ¬ o_I b = 0 := fun q => by have := (o_eq hb o_R0).mp q; omega
theorem o_rem {a b : Int} (ha : o_R a) (hb : o_R b) (ha0 : 0 ≤ a) (h0 : 0 < b) : o_I a - o_I a / o_I b * o_I b = o_I (a % b) := by
  rw [o_div ha hb ha0 h0, o_mul, o_sub]
  congr 1
  have := Int.emod_add_mul_ediv a b
  have h2 : a / b * b = b * (a / b) := Int.mul_comm _ _
  omega
theorem o_iconst {z : Int} (hd : decode M.2.1 pc = .ok (.iconst z, 1)) (k : o_V l M d al post (pc + 1) ls (.int (o_I z) :: st) n h mc ms) : o_V l M d al post pc ls st n h mc ms := by
  intro Z p e R s m args below meth c ad H locs cells slots MC MS la Q X E S P a1 a2 a3 a4 L K
  exact lv_iconst X.1 X.2.1 hd rfl (k Z p e R s m args below meth c ad H locs cells slots MC MS la Q X E S P a1 a2 a3 a4 L K)
theorem o_bipush {z : Int} (hd : decode M.2.1 pc = .ok (.bipush z, 2)) (hv : (Int8.ofInt z).toInt32 = o_I z) (k : o_V l M d al post (pc + 2) ls (.int (o_I z) :: st) n h mc ms) : o_V l M d al post pc ls st n h mc ms := by
  intro Z p e R s m args below meth c ad H locs cells slots MC MS la Q X E S P a1 a2 a3 a4 L K
  exact lv_bipush X.1 X.2.1 hd hv (k Z p e R s m args below meth c ad H locs cells slots MC MS la Q X E S P a1 a2 a3 a4 L K)
theorem o_sipush {z : Int} (hd : decode M.2.1 pc = .ok (.sipush z, 3)) (hv : (Int16.ofInt z).toInt32 = o_I z) (k : o_V l M d al post (pc + 3) ls (.int (o_I z) :: st) n h mc ms) : o_V l M d al post pc ls st n h mc ms := by
  intro Z p e R s m args below meth c ad H locs cells slots MC MS la Q X E S P a1 a2 a3 a4 L K
  exact lv_sipush X.1 X.2.1 hd hv (k Z p e R s m args below meth c ad H locs cells slots MC MS la Q X E S P a1 a2 a3 a4 L K)
theorem o_lconst {z : Fin 2} (hd : decode M.2.1 pc = .ok (.lconst z, 1)) (k : o_V l M d al post (pc + 1) ls (.long (Int64.ofNat (z : Nat)) :: st) n h mc ms) : o_V l M d al post pc ls st n h mc ms := by
  intro Z p e R s m args below meth c ad H locs cells slots MC MS la Q X E S P a1 a2 a3 a4 L K
  exact lv_lconst X.1 X.2.1 hd rfl (k Z p e R s m args below meth c ad H locs cells slots MC MS la Q X E S P a1 a2 a3 a4 L K)
theorem o_fconst0 (hd : decode M.2.1 pc = .ok (.fconst 0, 1)) (k : o_V l M d al post (pc + 1) ls (.float 0 :: st) n h mc ms) : o_V l M d al post pc ls st n h mc ms := by
  intro Z p e R s m args below meth c ad H locs cells slots MC MS la Q X E S P a1 a2 a3 a4 L K
  exact lv_fconst0 X.1 X.2.1 hd (k Z p e R s m args below meth c ad H locs cells slots MC MS la Q X E S P a1 a2 a3 a4 L K)
theorem o_dconst0 (hd : decode M.2.1 pc = .ok (.dconst 0, 1)) (k : o_V l M d al post (pc + 1) ls (.double 0 :: st) n h mc ms) : o_V l M d al post pc ls st n h mc ms := by
  intro Z p e R s m args below meth c ad H locs cells slots MC MS la Q X E S P a1 a2 a3 a4 L K
  exact lv_dconst0 X.1 X.2.1 hd (k Z p e R s m args below meth c ad H locs cells slots MC MS la Q X E S P a1 a2 a3 a4 L K)
theorem o_null (hd : decode M.2.1 pc = .ok (.aconst_null, 1)) (k : o_V l M d al post (pc + 1) ls (.null :: st) n h mc ms) : o_V l M d al post pc ls st n h mc ms := by
  intro Z p e R s m args below meth c ad H locs cells slots MC MS la Q X E S P a1 a2 a3 a4 L K
  exact lv_null X.1 X.2.1 hd (k Z p e R s m args below meth c ad H locs cells slots MC MS la Q X E S P a1 a2 a3 a4 L K)
theorem o_ldc {i : Nat} {z : Int} (hd : decode M.2.1 pc = .ok (.ldc i, 2)) (hw : Cond.constant M.1 i (o_I z) ∈ o_gW) (k : o_V l M d al post (pc + 2) ls (.int (o_I z) :: st) n h mc ms) : o_V l M d al post pc ls st n h mc ms := by
  intro Z p e R s m args below meth c ad H locs cells slots MC MS la Q X E S P a1 a2 a3 a4 L K
  exact lv_ldc X.1 X.2.1 X.2.2.1 (X.2.2.2.1 _ hw) hd (k Z p e R s m args below meth c ad H locs cells slots MC MS la Q X E S P a1 a2 a3 a4 L K)
theorem o_iload_n {k0 : Fin 4} {x : Int32} (hd : decode M.2.1 pc = .ok (.iload_n k0, 1)) (hg : o_get ls (k0 : Nat) = some (.int x)) (k : o_V l M d al post (pc + 1) ls (.int x :: st) n h mc ms) : o_V l M d al post pc ls st n h mc ms := by
  intro Z p e R s m args below meth c ad H locs cells slots MC MS la Q X E S P a1 a2 a3 a4 L K
  exact lv_iload_n X.1 X.2.1 hd rfl (o_lat L hg) (k Z p e R s m args below meth c ad H locs cells slots MC MS la Q X E S P a1 a2 a3 a4 L K)
theorem o_iload {i : Nat} {x : Int32} (hd : decode M.2.1 pc = .ok (.iload i, 2)) (hg : o_get ls i = some (.int x)) (k : o_V l M d al post (pc + 2) ls (.int x :: st) n h mc ms) : o_V l M d al post pc ls st n h mc ms := by
  intro Z p e R s m args below meth c ad H locs cells slots MC MS la Q X E S P a1 a2 a3 a4 L K
  exact lv_iload X.1 X.2.1 hd (o_lat L hg) (k Z p e R s m args below meth c ad H locs cells slots MC MS la Q X E S P a1 a2 a3 a4 L K)
theorem o_lload_n {k0 : Fin 4} {x : Int64} (hd : decode M.2.1 pc = .ok (.lload_n k0, 1)) (hg : o_get ls (k0 : Nat) = some (.long x)) (k : o_V l M d al post (pc + 1) ls (.long x :: st) n h mc ms) : o_V l M d al post pc ls st n h mc ms := by
  intro Z p e R s m args below meth c ad H locs cells slots MC MS la Q X E S P a1 a2 a3 a4 L K
  exact lv_lload_n X.1 X.2.1 hd rfl (o_lat L hg) (k Z p e R s m args below meth c ad H locs cells slots MC MS la Q X E S P a1 a2 a3 a4 L K)
theorem o_lload {i : Nat} {x : Int64} (hd : decode M.2.1 pc = .ok (.lload i, 2)) (hg : o_get ls i = some (.long x)) (k : o_V l M d al post (pc + 2) ls (.long x :: st) n h mc ms) : o_V l M d al post pc ls st n h mc ms := by
  intro Z p e R s m args below meth c ad H locs cells slots MC MS la Q X E S P a1 a2 a3 a4 L K
  exact lv_lload X.1 X.2.1 hd (o_lat L hg) (k Z p e R s m args below meth c ad H locs cells slots MC MS la Q X E S P a1 a2 a3 a4 L K)
theorem o_fload_n {k0 : Fin 4} {x : UInt32} (hd : decode M.2.1 pc = .ok (.fload_n k0, 1)) (hg : o_get ls (k0 : Nat) = some (.float x)) (k : o_V l M d al post (pc + 1) ls (.float x :: st) n h mc ms) : o_V l M d al post pc ls st n h mc ms := by
  intro Z p e R s m args below meth c ad H locs cells slots MC MS la Q X E S P a1 a2 a3 a4 L K
  exact lv_fload_n X.1 X.2.1 hd rfl (o_lat L hg) (k Z p e R s m args below meth c ad H locs cells slots MC MS la Q X E S P a1 a2 a3 a4 L K)
theorem o_fload {i : Nat} {x : UInt32} (hd : decode M.2.1 pc = .ok (.fload i, 2)) (hg : o_get ls i = some (.float x)) (k : o_V l M d al post (pc + 2) ls (.float x :: st) n h mc ms) : o_V l M d al post pc ls st n h mc ms := by
  intro Z p e R s m args below meth c ad H locs cells slots MC MS la Q X E S P a1 a2 a3 a4 L K
  exact lv_fload X.1 X.2.1 hd (o_lat L hg) (k Z p e R s m args below meth c ad H locs cells slots MC MS la Q X E S P a1 a2 a3 a4 L K)
theorem o_dload_n {k0 : Fin 4} {x : UInt64} (hd : decode M.2.1 pc = .ok (.dload_n k0, 1)) (hg : o_get ls (k0 : Nat) = some (.double x)) (k : o_V l M d al post (pc + 1) ls (.double x :: st) n h mc ms) : o_V l M d al post pc ls st n h mc ms := by
  intro Z p e R s m args below meth c ad H locs cells slots MC MS la Q X E S P a1 a2 a3 a4 L K
  exact lv_dload_n X.1 X.2.1 hd rfl (o_lat L hg) (k Z p e R s m args below meth c ad H locs cells slots MC MS la Q X E S P a1 a2 a3 a4 L K)
theorem o_dload {i : Nat} {x : UInt64} (hd : decode M.2.1 pc = .ok (.dload i, 2)) (hg : o_get ls i = some (.double x)) (k : o_V l M d al post (pc + 2) ls (.double x :: st) n h mc ms) : o_V l M d al post pc ls st n h mc ms := by
  intro Z p e R s m args below meth c ad H locs cells slots MC MS la Q X E S P a1 a2 a3 a4 L K
  exact lv_dload X.1 X.2.1 hd (o_lat L hg) (k Z p e R s m args below meth c ad H locs cells slots MC MS la Q X E S P a1 a2 a3 a4 L K)
theorem o_aload_n {k0 : Fin 4} {x : Nat} (hd : decode M.2.1 pc = .ok (.aload_n k0, 1)) (hg : o_get ls (k0 : Nat) = some (.ref x)) (k : o_V l M d al post (pc + 1) ls (.ref x :: st) n h mc ms) : o_V l M d al post pc ls st n h mc ms := by
  intro Z p e R s m args below meth c ad H locs cells slots MC MS la Q X E S P a1 a2 a3 a4 L K
  exact lv_aload_n X.1 X.2.1 hd rfl (o_lat L hg) (k Z p e R s m args below meth c ad H locs cells slots MC MS la Q X E S P a1 a2 a3 a4 L K)
theorem o_aload {i : Nat} {x : Nat} (hd : decode M.2.1 pc = .ok (.aload i, 2)) (hg : o_get ls i = some (.ref x)) (k : o_V l M d al post (pc + 2) ls (.ref x :: st) n h mc ms) : o_V l M d al post pc ls st n h mc ms := by
  intro Z p e R s m args below meth c ad H locs cells slots MC MS la Q X E S P a1 a2 a3 a4 L K
  exact lv_aload X.1 X.2.1 hd (o_lat L hg) (k Z p e R s m args below meth c ad H locs cells slots MC MS la Q X E S P a1 a2 a3 a4 L K)
theorem o_aload_nN {k0 : Fin 4} (hd : decode M.2.1 pc = .ok (.aload_n k0, 1)) (hg : o_get ls (k0 : Nat) = some .null) (k : o_V l M d al post (pc + 1) ls (.null :: st) n h mc ms) : o_V l M d al post pc ls st n h mc ms := by
  intro Z p e R s m args below meth c ad H locs cells slots MC MS la Q X E S P a1 a2 a3 a4 L K
  exact lv_aload_nN X.1 X.2.1 hd rfl (o_lat L hg) (k Z p e R s m args below meth c ad H locs cells slots MC MS la Q X E S P a1 a2 a3 a4 L K)
theorem o_istore_n {k0 : Fin 4} {x : Int32} (hd : decode M.2.1 pc = .ok (.istore_n k0, 1)) (hn : (k0 : Nat) < M.2.2.1) (k : o_V l M d al post (pc + 1) (o_s1 ls (k0 : Nat) (.int x)) st n h mc ms) : o_V l M d al post pc ls (.int x :: st) n h mc ms := by
  intro Z p e R s m args below meth c ad H locs cells slots MC MS la Q X E S P a1 a2 a3 a4 L K
  exact lv_istore_n X.1 X.2.1 hd rfl L hn (o_s1_map ad (v := .int x)).symm (fun la' L' => (k Z p e R s m args below meth c ad H locs cells slots MC MS la' Q X E S P a1 a2 a3 a4 L' K))
theorem o_istore {i : Nat} {x : Int32} (hd : decode M.2.1 pc = .ok (.istore i, 2)) (hn : i < M.2.2.1) (k : o_V l M d al post (pc + 2) (o_s1 ls i (.int x)) st n h mc ms) : o_V l M d al post pc ls (.int x :: st) n h mc ms := by
  intro Z p e R s m args below meth c ad H locs cells slots MC MS la Q X E S P a1 a2 a3 a4 L K
  exact lv_istore X.1 X.2.1 hd L hn (o_s1_map ad (v := .int x)).symm (fun la' L' => (k Z p e R s m args below meth c ad H locs cells slots MC MS la' Q X E S P a1 a2 a3 a4 L' K))
theorem o_fstore_n {k0 : Fin 4} {x : UInt32} (hd : decode M.2.1 pc = .ok (.fstore_n k0, 1)) (hn : (k0 : Nat) < M.2.2.1) (k : o_V l M d al post (pc + 1) (o_s1 ls (k0 : Nat) (.float x)) st n h mc ms) : o_V l M d al post pc ls (.float x :: st) n h mc ms := by
  intro Z p e R s m args below meth c ad H locs cells slots MC MS la Q X E S P a1 a2 a3 a4 L K
  exact lv_fstore_n X.1 X.2.1 hd rfl L hn (o_s1_map ad (v := .float x)).symm (fun la' L' => (k Z p e R s m args below meth c ad H locs cells slots MC MS la' Q X E S P a1 a2 a3 a4 L' K))
theorem o_fstore {i : Nat} {x : UInt32} (hd : decode M.2.1 pc = .ok (.fstore i, 2)) (hn : i < M.2.2.1) (k : o_V l M d al post (pc + 2) (o_s1 ls i (.float x)) st n h mc ms) : o_V l M d al post pc ls (.float x :: st) n h mc ms := by
  intro Z p e R s m args below meth c ad H locs cells slots MC MS la Q X E S P a1 a2 a3 a4 L K
  exact lv_fstore X.1 X.2.1 hd L hn (o_s1_map ad (v := .float x)).symm (fun la' L' => (k Z p e R s m args below meth c ad H locs cells slots MC MS la' Q X E S P a1 a2 a3 a4 L' K))
theorem o_astore_n {k0 : Fin 4} {x : Nat} (hd : decode M.2.1 pc = .ok (.astore_n k0, 1)) (hn : (k0 : Nat) < M.2.2.1) (k : o_V l M d al post (pc + 1) (o_s1 ls (k0 : Nat) (.ref x)) st n h mc ms) : o_V l M d al post pc ls (.ref x :: st) n h mc ms := by
  intro Z p e R s m args below meth c ad H locs cells slots MC MS la Q X E S P a1 a2 a3 a4 L K
  exact lv_astore_n X.1 X.2.1 hd rfl L hn (o_s1_map ad (v := .ref x)).symm (fun la' L' => (k Z p e R s m args below meth c ad H locs cells slots MC MS la' Q X E S P a1 a2 a3 a4 L' K))
theorem o_astore {i : Nat} {x : Nat} (hd : decode M.2.1 pc = .ok (.astore i, 2)) (hn : i < M.2.2.1) (k : o_V l M d al post (pc + 2) (o_s1 ls i (.ref x)) st n h mc ms) : o_V l M d al post pc ls (.ref x :: st) n h mc ms := by
  intro Z p e R s m args below meth c ad H locs cells slots MC MS la Q X E S P a1 a2 a3 a4 L K
  exact lv_astore X.1 X.2.1 hd L hn (o_s1_map ad (v := .ref x)).symm (fun la' L' => (k Z p e R s m args below meth c ad H locs cells slots MC MS la' Q X E S P a1 a2 a3 a4 L' K))
theorem o_lstore_n {k0 : Fin 4} {x : Int64} (hd : decode M.2.1 pc = .ok (.lstore_n k0, 1)) (hn : (k0 : Nat) + 1 < M.2.2.1) (k : o_V l M d al post (pc + 1) (o_s2 ls (k0 : Nat) (.long x)) st n h mc ms) : o_V l M d al post pc ls (.long x :: st) n h mc ms := by
  intro Z p e R s m args below meth c ad H locs cells slots MC MS la Q X E S P a1 a2 a3 a4 L K
  exact lv_lstore_n X.1 X.2.1 hd rfl L hn (o_s2_map ad (v := .long x)).symm (fun la' L' => (k Z p e R s m args below meth c ad H locs cells slots MC MS la' Q X E S P a1 a2 a3 a4 L' K))
theorem o_lstore {i : Nat} {x : Int64} (hd : decode M.2.1 pc = .ok (.lstore i, 2)) (hn : i + 1 < M.2.2.1) (k : o_V l M d al post (pc + 2) (o_s2 ls i (.long x)) st n h mc ms) : o_V l M d al post pc ls (.long x :: st) n h mc ms := by
  intro Z p e R s m args below meth c ad H locs cells slots MC MS la Q X E S P a1 a2 a3 a4 L K
  exact lv_lstore X.1 X.2.1 hd L hn (o_s2_map ad (v := .long x)).symm (fun la' L' => (k Z p e R s m args below meth c ad H locs cells slots MC MS la' Q X E S P a1 a2 a3 a4 L' K))
theorem o_dstore_n {k0 : Fin 4} {x : UInt64} (hd : decode M.2.1 pc = .ok (.dstore_n k0, 1)) (hn : (k0 : Nat) + 1 < M.2.2.1) (k : o_V l M d al post (pc + 1) (o_s2 ls (k0 : Nat) (.double x)) st n h mc ms) : o_V l M d al post pc ls (.double x :: st) n h mc ms := by
  intro Z p e R s m args below meth c ad H locs cells slots MC MS la Q X E S P a1 a2 a3 a4 L K
  exact lv_dstore_n X.1 X.2.1 hd rfl L hn (o_s2_map ad (v := .double x)).symm (fun la' L' => (k Z p e R s m args below meth c ad H locs cells slots MC MS la' Q X E S P a1 a2 a3 a4 L' K))
theorem o_dstore {i : Nat} {x : UInt64} (hd : decode M.2.1 pc = .ok (.dstore i, 2)) (hn : i + 1 < M.2.2.1) (k : o_V l M d al post (pc + 2) (o_s2 ls i (.double x)) st n h mc ms) : o_V l M d al post pc ls (.double x :: st) n h mc ms := by
  intro Z p e R s m args below meth c ad H locs cells slots MC MS la Q X E S P a1 a2 a3 a4 L K
  exact lv_dstore X.1 X.2.1 hd L hn (o_s2_map ad (v := .double x)).symm (fun la' L' => (k Z p e R s m args below meth c ad H locs cells slots MC MS la' Q X E S P a1 a2 a3 a4 L' K))
theorem o_astore_nN {k0 : Fin 4} (hd : decode M.2.1 pc = .ok (.astore_n k0, 1)) (hn : (k0 : Nat) < M.2.2.1) (k : o_V l M d al post (pc + 1) (o_s1 ls (k0 : Nat) .null) st n h mc ms) : o_V l M d al post pc ls (.null :: st) n h mc ms := by
  intro Z p e R s m args below meth c ad H locs cells slots MC MS la Q X E S P a1 a2 a3 a4 L K
  exact lv_astore_nN X.1 X.2.1 hd rfl L hn (o_s1_map ad (v := .null)).symm (fun la' L' => (k Z p e R s m args below meth c ad H locs cells slots MC MS la' Q X E S P a1 a2 a3 a4 L' K))
theorem o_iinc {i : Nat} {z a : Int} (hd : decode M.2.1 pc = .ok (.iinc i z, 3)) (hg : o_get ls i = some (.int (o_I a))) (hn : i < M.2.2.1) (k : o_V l M d al post (pc + 3) (o_s1 ls i (.int (o_I (a + z)))) st n h mc ms) : o_V l M d al post pc ls st n h mc ms := by
  intro Z p e R s m args below meth c ad H locs cells slots MC MS la Q X E S P a1 a2 a3 a4 L K
  obtain ⟨k0, hk0⟩ := List.getElem?_of_mem (o_get_mem hg)
  exact lv_iinc X.1 X.2.1 hd L (k := k0) (x := o_I a) (by rw [List.getElem?_map, hk0]; rfl) (o_add a z) hn (o_s1_map ad (v := .int (o_I (a + z)))).symm (fun la' L' => (k Z p e R s m args below meth c ad H locs cells slots MC MS la' Q X E S P a1 a2 a3 a4 L' K))
theorem o_iadd {a b : Int} (hd : decode M.2.1 pc = .ok (.iadd, 1)) (k : o_V l M d al post (pc + 1) ls (.int (o_I (a + b)) :: st) n h mc ms) : o_V l M d al post pc ls (.int (o_I b) :: .int (o_I a) :: st) n h mc ms := by
  intro Z p e R s m args below meth c ad H locs cells slots MC MS la Q X E S P a1 a2 a3 a4 L K
  have k9 := k Z p e R s m args below meth c ad H locs cells slots MC MS la Q X E S P a1 a2 a3 a4 L K
  rw [List.map_cons, show o_rV ad (.int (o_I (a + b))) = .int (o_I a + o_I b) from congrArg Value.int (o_add a b).symm] at k9
  exact lv_iadd X.1 X.2.1 hd k9
theorem o_isub {a b : Int} (hd : decode M.2.1 pc = .ok (.isub, 1)) (k : o_V l M d al post (pc + 1) ls (.int (o_I (a - b)) :: st) n h mc ms) : o_V l M d al post pc ls (.int (o_I b) :: .int (o_I a) :: st) n h mc ms := by
  intro Z p e R s m args below meth c ad H locs cells slots MC MS la Q X E S P a1 a2 a3 a4 L K
  have k9 := k Z p e R s m args below meth c ad H locs cells slots MC MS la Q X E S P a1 a2 a3 a4 L K
  rw [List.map_cons, show o_rV ad (.int (o_I (a - b))) = .int (o_I a - o_I b) from congrArg Value.int (o_sub a b).symm] at k9
  exact lv_isub X.1 X.2.1 hd k9
theorem o_imul {a b : Int} (hd : decode M.2.1 pc = .ok (.imul, 1)) (k : o_V l M d al post (pc + 1) ls (.int (o_I (a * b)) :: st) n h mc ms) : o_V l M d al post pc ls (.int (o_I b) :: .int (o_I a) :: st) n h mc ms := by
  intro Z p e R s m args below meth c ad H locs cells slots MC MS la Q X E S P a1 a2 a3 a4 L K
  have k9 := k Z p e R s m args below meth c ad H locs cells slots MC MS la Q X E S P a1 a2 a3 a4 L K
  rw [List.map_cons, show o_rV ad (.int (o_I (a * b))) = .int (o_I a * o_I b) from congrArg Value.int (o_mul a b).symm] at k9
  exact lv_imul X.1 X.2.1 hd k9
theorem o_idiv {a b : Int} (hd : decode M.2.1 pc = .ok (.idiv, 1)) (ha : o_R a) (hb : o_R b) (ha0 : 0 ≤ a) (hb0 : 0 < b) (k : o_V l M d al post (pc + 1) ls (.int (o_I (a / b)) :: st) n h mc ms) : o_V l M d al post pc ls (.int (o_I b) :: .int (o_I a) :: st) n h mc ms := by
  intro Z p e R s m args below meth c ad H locs cells slots MC MS la Q X E S P a1 a2 a3 a4 L K
  have k9 := k Z p e R s m args below meth c ad H locs cells slots MC MS la Q X E S P a1 a2 a3 a4 L K
  rw [List.map_cons, show o_rV ad (.int (o_I (a / b))) = .int (o_I a / o_I b) from congrArg Value.int (o_div ha hb ha0 hb0).symm] at k9
  exact lv_idiv X.1 X.2.1 hd (o_nz hb hb0) k9
theorem o_irem {a b : Int} (hd : decode M.2.1 pc = .ok (.irem, 1)) (ha : o_R a) (hb : o_R b) (ha0 : 0 ≤ a) (hb0 : 0 < b) (k : o_V l M d al post (pc + 1) ls (.int (o_I (a % b)) :: st) n h mc ms) : o_V l M d al post pc ls (.int (o_I b) :: .int (o_I a) :: st) n h mc ms := by
  intro Z p e R s m args below meth c ad H locs cells slots MC MS la Q X E S P a1 a2 a3 a4 L K
  have k9 := k Z p e R s m args below meth c ad H locs cells slots MC MS la Q X E S P a1 a2 a3 a4 L K
  rw [List.map_cons, show o_rV ad (.int (o_I (a % b))) = .int (o_I a - o_I a / o_I b * o_I b) from congrArg Value.int (o_rem ha hb ha0 hb0).symm] at k9
  exact lv_irem X.1 X.2.1 hd (o_nz hb hb0) k9
theorem o_iand {x y : Int32} (hd : decode M.2.1 pc = .ok (.iand, 1)) (k : o_V l M d al post (pc + 1) ls (.int (x &&& y) :: st) n h mc ms) : o_V l M d al post pc ls (.int y :: .int x :: st) n h mc ms := by
  intro Z p e R s m args below meth c ad H locs cells slots MC MS la Q X E S P a1 a2 a3 a4 L K
  exact lv_iand X.1 X.2.1 hd (k Z p e R s m args below meth c ad H locs cells slots MC MS la Q X E S P a1 a2 a3 a4 L K)
theorem o_ishr {x y : Int32} (hd : decode M.2.1 pc = .ok (.ishr, 1)) (k : o_V l M d al post (pc + 1) ls (.int (x >>> (y &&& 31)) :: st) n h mc ms) : o_V l M d al post pc ls (.int y :: .int x :: st) n h mc ms := by
  intro Z p e R s m args below meth c ad H locs cells slots MC MS la Q X E S P a1 a2 a3 a4 L K
  exact lv_ishr X.1 X.2.1 hd (k Z p e R s m args below meth c ad H locs cells slots MC MS la Q X E S P a1 a2 a3 a4 L K)
theorem o_i2c {x : Int32} (hd : decode M.2.1 pc = .ok (.i2c, 1)) (k : o_V l M d al post (pc + 1) ls (.int (x.toUInt32 % 65536).toInt32 :: st) n h mc ms) : o_V l M d al post pc ls (.int x :: st) n h mc ms := by
  intro Z p e R s m args below meth c ad H locs cells slots MC MS la Q X E S P a1 a2 a3 a4 L K
  exact lv_i2c X.1 X.2.1 hd rfl (k Z p e R s m args below meth c ad H locs cells slots MC MS la Q X E S P a1 a2 a3 a4 L K)
theorem o_i2b {x : Int32} (hd : decode M.2.1 pc = .ok (.i2b, 1)) (k : o_V l M d al post (pc + 1) ls (.int x.toInt8.toInt32 :: st) n h mc ms) : o_V l M d al post pc ls (.int x :: st) n h mc ms := by
  intro Z p e R s m args below meth c ad H locs cells slots MC MS la Q X E S P a1 a2 a3 a4 L K
  exact lv_i2b X.1 X.2.1 hd rfl (k Z p e R s m args below meth c ad H locs cells slots MC MS la Q X E S P a1 a2 a3 a4 L K)
theorem o_i2l {x : Int32} (hd : decode M.2.1 pc = .ok (.i2l, 1)) (k : o_V l M d al post (pc + 1) ls (.long x.toInt64 :: st) n h mc ms) : o_V l M d al post pc ls (.int x :: st) n h mc ms := by
  intro Z p e R s m args below meth c ad H locs cells slots MC MS la Q X E S P a1 a2 a3 a4 L K
  exact lv_i2l X.1 X.2.1 hd rfl (k Z p e R s m args below meth c ad H locs cells slots MC MS la Q X E S P a1 a2 a3 a4 L K)
theorem o_i2d {x : Int32} (hd : decode M.2.1 pc = .ok (.i2d, 1)) (k : o_V l M d al post (pc + 1) ls (.double (FP.i2d x) :: st) n h mc ms) : o_V l M d al post pc ls (.int x :: st) n h mc ms := by
  intro Z p e R s m args below meth c ad H locs cells slots MC MS la Q X E S P a1 a2 a3 a4 L K
  exact lv_i2d X.1 X.2.1 hd (k Z p e R s m args below meth c ad H locs cells slots MC MS la Q X E S P a1 a2 a3 a4 L K)
theorem o_i2f {x : Int32} (hd : decode M.2.1 pc = .ok (.i2f, 1)) (k : o_V l M d al post (pc + 1) ls (.float (FP.i2f x) :: st) n h mc ms) : o_V l M d al post pc ls (.int x :: st) n h mc ms := by
  intro Z p e R s m args below meth c ad H locs cells slots MC MS la Q X E S P a1 a2 a3 a4 L K
  exact lv_i2f X.1 X.2.1 hd (k Z p e R s m args below meth c ad H locs cells slots MC MS la Q X E S P a1 a2 a3 a4 L K)
theorem o_f2d {x : UInt32} (hd : decode M.2.1 pc = .ok (.f2d, 1)) (hne : vf_n64 (FP.f2d x)) (k : o_V l M d al post (pc + 1) ls (.double (FP.f2d x) :: st) n h mc ms) : o_V l M d al post pc ls (.float x :: st) n h mc ms := by
  intro Z p e R s m args below meth c ad H locs cells slots MC MS la Q X E S P a1 a2 a3 a4 L K
  exact lv_f2d X.1 X.2.1 hd hne (k Z p e R s m args below meth c ad H locs cells slots MC MS la Q X E S P a1 a2 a3 a4 L K)
theorem o_ddiv {x y : UInt64} (hd : decode M.2.1 pc = .ok (.ddiv, 1)) (hne : vf_n64 (FP.ddiv x y)) (k : o_V l M d al post (pc + 1) ls (.double (FP.ddiv x y) :: st) n h mc ms) : o_V l M d al post pc ls (.double y :: .double x :: st) n h mc ms := by
  intro Z p e R s m args below meth c ad H locs cells slots MC MS la Q X E S P a1 a2 a3 a4 L K
  exact lv_ddiv X.1 X.2.1 hd hne (k Z p e R s m args below meth c ad H locs cells slots MC MS la Q X E S P a1 a2 a3 a4 L K)
theorem o_fdiv {x y : UInt32} (hd : decode M.2.1 pc = .ok (.fdiv, 1)) (hne : vf_n32 (FP.fdiv x y)) (k : o_V l M d al post (pc + 1) ls (.float (FP.fdiv x y) :: st) n h mc ms) : o_V l M d al post pc ls (.float y :: .float x :: st) n h mc ms := by
  intro Z p e R s m args below meth c ad H locs cells slots MC MS la Q X E S P a1 a2 a3 a4 L K
  exact lv_fdiv X.1 X.2.1 hd hne (k Z p e R s m args below meth c ad H locs cells slots MC MS la Q X E S P a1 a2 a3 a4 L K)
theorem o_lcmp {x y : Int64} (hd : decode M.2.1 pc = .ok (.lcmp, 1)) (k : o_V l M d al post (pc + 1) ls (.int (lg_cmp x y) :: st) n h mc ms) : o_V l M d al post pc ls (.long y :: .long x :: st) n h mc ms := by
  intro Z p e R s m args below meth c ad H locs cells slots MC MS la Q X E S P a1 a2 a3 a4 L K
  exact W.lcmp X.1 X.2.1 hd (k Z p e R s m args below meth c ad H locs cells slots MC MS la Q X E S P a1 a2 a3 a4 L K)
theorem o_dcmp {x y : UInt64} {op : CmpOp} (hd : decode M.2.1 pc = .ok (.dcmp op, 1)) (k : o_V l M d al post (pc + 1) ls (.int (Op.cmpValue (FP.dcmp x y) op) :: st) n h mc ms) : o_V l M d al post pc ls (.double y :: .double x :: st) n h mc ms := by
  intro Z p e R s m args below meth c ad H locs cells slots MC MS la Q X E S P a1 a2 a3 a4 L K
  exact lv_dcmp X.1 X.2.1 hd (k Z p e R s m args below meth c ad H locs cells slots MC MS la Q X E S P a1 a2 a3 a4 L K)
theorem o_fcmp {x y : UInt32} {op : CmpOp} (hd : decode M.2.1 pc = .ok (.fcmp op, 1)) (k : o_V l M d al post (pc + 1) ls (.int (Op.cmpValue (FP.fcmp x y) op) :: st) n h mc ms) : o_V l M d al post pc ls (.float y :: .float x :: st) n h mc ms := by
  intro Z p e R s m args below meth c ad H locs cells slots MC MS la Q X E S P a1 a2 a3 a4 L K
  exact lv_fcmp X.1 X.2.1 hd (k Z p e R s m args below meth c ad H locs cells slots MC MS la Q X E S P a1 a2 a3 a4 L K)
theorem o_dup {u : Value} (hd : decode M.2.1 pc = .ok (.dup, 1)) (hu : u.category = 1) (k : o_V l M d al post (pc + 1) ls (u :: u :: st) n h mc ms) : o_V l M d al post pc ls (u :: st) n h mc ms := by
  intro Z p e R s m args below meth c ad H locs cells slots MC MS la Q X E S P a1 a2 a3 a4 L K
  exact lv_dup X.1 X.2.1 hd (by rw [o_cat]; exact hu) (k Z p e R s m args below meth c ad H locs cells slots MC MS la Q X E S P a1 a2 a3 a4 L K)
theorem o_pop {u : Value} (hd : decode M.2.1 pc = .ok (.pop, 1)) (hu : u.category = 1) (k : o_V l M d al post (pc + 1) ls st n h mc ms) : o_V l M d al post pc ls (u :: st) n h mc ms := by
  intro Z p e R s m args below meth c ad H locs cells slots MC MS la Q X E S P a1 a2 a3 a4 L K
  exact lv_pop X.1 X.2.1 hd (by rw [o_cat]; exact hu) (k Z p e R s m args below meth c ad H locs cells slots MC MS la Q X E S P a1 a2 a3 a4 L K)
theorem o_dup2 {u v : Value} (hd : decode M.2.1 pc = .ok (.dup2, 1)) (hu : u.category = 1) (hv : v.category = 1) (k : o_V l M d al post (pc + 1) ls (u :: v :: u :: v :: st) n h mc ms) : o_V l M d al post pc ls (u :: v :: st) n h mc ms := by
  intro Z p e R s m args below meth c ad H locs cells slots MC MS la Q X E S P a1 a2 a3 a4 L K
  exact lv_dup2_11 X.1 X.2.1 hd (by rw [o_cat]; exact hu) (by rw [o_cat]; exact hv) (k Z p e R s m args below meth c ad H locs cells slots MC MS la Q X E S P a1 a2 a3 a4 L K)
theorem o_dup_x1 {u v : Value} (hd : decode M.2.1 pc = .ok (.dup_x1, 1)) (hu : u.category = 1) (hv : v.category = 1) (k : o_V l M d al post (pc + 1) ls (u :: v :: u :: st) n h mc ms) : o_V l M d al post pc ls (u :: v :: st) n h mc ms := by
  intro Z p e R s m args below meth c ad H locs cells slots MC MS la Q X E S P a1 a2 a3 a4 L K
  exact lv_dup_x1 X.1 X.2.1 hd (by rw [o_cat]; exact hu) (by rw [o_cat]; exact hv) (k Z p e R s m args below meth c ad H locs cells slots MC MS la Q X E S P a1 a2 a3 a4 L K)
theorem o_dup_x2 {u v w : Value} (hd : decode M.2.1 pc = .ok (.dup_x2, 1)) (hu : u.category = 1) (hv : v.category = 1) (hw : w.category = 1) (k : o_V l M d al post (pc + 1) ls (u :: v :: w :: u :: st) n h mc ms) : o_V l M d al post pc ls (u :: v :: w :: st) n h mc ms := by
  intro Z p e R s m args below meth c ad H locs cells slots MC MS la Q X E S P a1 a2 a3 a4 L K
  exact lv_dup_x2 X.1 X.2.1 hd (by rw [o_cat]; exact hu) (by rw [o_cat]; exact hv) (by rw [o_cat]; exact hw) (k Z p e R s m args below meth c ad H locs cells slots MC MS la Q X E S P a1 a2 a3 a4 L K)
theorem o_icmp_eq {a b : Int} {off : Int} {tgt : Nat} (hd : decode M.2.1 pc = .ok (.if_icmp .eq off, 3)) (ht : (pc : Int) + off = (tgt : Int)) (ha : o_R a) (hb : o_R b) (k1 : a = b → o_V l M d al post tgt ls st n h mc ms) (k2 : ¬ (a = b) → o_V l M d al post (pc + 3) ls st n h mc ms) : o_V l M d al post pc ls (.int (o_I b) :: .int (o_I a) :: st) n h mc ms := by
  intro Z p e R s m args below meth c ad H locs cells slots MC MS la Q X E S P a1 a2 a3 a4 L K
  exact lv_icmp_eq X.1 X.2.1 hd ht (fun q => k1 ((o_eq ha hb).mp q) Z p e R s m args below meth c ad H locs cells slots MC MS la Q X E S P a1 a2 a3 a4 L K) (fun q => k2 (fun z => q ((o_eq ha hb).mpr z)) Z p e R s m args below meth c ad H locs cells slots MC MS la Q X E S P a1 a2 a3 a4 L K)
theorem o_if_eq {a : Int} {off : Int} {tgt : Nat} (hd : decode M.2.1 pc = .ok (.ifCond .eq off, 3)) (ht : (pc : Int) + off = (tgt : Int)) (ha : o_R a) (k1 : a = 0 → o_V l M d al post tgt ls st n h mc ms) (k2 : ¬ (a = 0) → o_V l M d al post (pc + 3) ls st n h mc ms) : o_V l M d al post pc ls (.int (o_I a) :: st) n h mc ms := by
  intro Z p e R s m args below meth c ad H locs cells slots MC MS la Q X E S P a1 a2 a3 a4 L K
  exact lv_if_eq X.1 X.2.1 hd ht (fun q => k1 ((o_eq ha o_R0).mp q) Z p e R s m args below meth c ad H locs cells slots MC MS la Q X E S P a1 a2 a3 a4 L K) (fun q => k2 (fun z => q ((o_eq ha o_R0).mpr z)) Z p e R s m args below meth c ad H locs cells slots MC MS la Q X E S P a1 a2 a3 a4 L K)
theorem o_icmp_ne {a b : Int} {off : Int} {tgt : Nat} (hd : decode M.2.1 pc = .ok (.if_icmp .ne off, 3)) (ht : (pc : Int) + off = (tgt : Int)) (ha : o_R a) (hb : o_R b) (k1 : ¬ a = b → o_V l M d al post tgt ls st n h mc ms) (k2 : a = b → o_V l M d al post (pc + 3) ls st n h mc ms) : o_V l M d al post pc ls (.int (o_I b) :: .int (o_I a) :: st) n h mc ms := by
  intro Z p e R s m args below meth c ad H locs cells slots MC MS la Q X E S P a1 a2 a3 a4 L K
  exact lv_icmp_ne X.1 X.2.1 hd ht (fun q => k1 (fun z => q ((o_eq ha hb).mpr z)) Z p e R s m args below meth c ad H locs cells slots MC MS la Q X E S P a1 a2 a3 a4 L K) (fun q => k2 ((o_eq ha hb).mp q) Z p e R s m args below meth c ad H locs cells slots MC MS la Q X E S P a1 a2 a3 a4 L K)
theorem o_if_ne {a : Int} {off : Int} {tgt : Nat} (hd : decode M.2.1 pc = .ok (.ifCond .ne off, 3)) (ht : (pc : Int) + off = (tgt : Int)) (ha : o_R a) (k1 : ¬ a = 0 → o_V l M d al post tgt ls st n h mc ms) (k2 : a = 0 → o_V l M d al post (pc + 3) ls st n h mc ms) : o_V l M d al post pc ls (.int (o_I a) :: st) n h mc ms := by
  intro Z p e R s m args below meth c ad H locs cells slots MC MS la Q X E S P a1 a2 a3 a4 L K
  exact lv_if_ne X.1 X.2.1 hd ht (fun q => k1 (fun z => q ((o_eq ha o_R0).mpr z)) Z p e R s m args below meth c ad H locs cells slots MC MS la Q X E S P a1 a2 a3 a4 L K) (fun q => k2 ((o_eq ha o_R0).mp q) Z p e R s m args below meth c ad H locs cells slots MC MS la Q X E S P a1 a2 a3 a4 L K)
theorem o_ifx_ne {x : Int32} {off : Int} {tgt : Nat} (hd : decode M.2.1 pc = .ok (.ifCond .ne off, 3)) (ht : (pc : Int) + off = (tgt : Int)) (k1 : ¬ x = 0 → o_V l M d al post tgt ls st n h mc ms) (k2 : x = 0 → o_V l M d al post (pc + 3) ls st n h mc ms) : o_V l M d al post pc ls (.int x :: st) n h mc ms := by
  intro Z p e R s m args below meth c ad H locs cells slots MC MS la Q X E S P a1 a2 a3 a4 L K
  exact lv_if_ne X.1 X.2.1 hd ht (fun q => k1 q Z p e R s m args below meth c ad H locs cells slots MC MS la Q X E S P a1 a2 a3 a4 L K) (fun q => k2 q Z p e R s m args below meth c ad H locs cells slots MC MS la Q X E S P a1 a2 a3 a4 L K)
theorem o_icmp_lt {a b : Int} {off : Int} {tgt : Nat} (hd : decode M.2.1 pc = .ok (.if_icmp .lt off, 3)) (ht : (pc : Int) + off = (tgt : Int)) (ha : o_R a) (hb : o_R b) (k1 : a < b → o_V l M d al post tgt ls st n h mc ms) (k2 : ¬ (a < b) → o_V l M d al post (pc + 3) ls st n h mc ms) : o_V l M d al post pc ls (.int (o_I b) :: .int (o_I a) :: st) n h mc ms := by
  intro Z p e R s m args below meth c ad H locs cells slots MC MS la Q X E S P a1 a2 a3 a4 L K
  exact lv_icmp_lt X.1 X.2.1 hd ht (fun q => k1 ((o_lt ha hb).mp q) Z p e R s m args below meth c ad H locs cells slots MC MS la Q X E S P a1 a2 a3 a4 L K) (fun q => k2 (fun z => q ((o_lt ha hb).mpr z)) Z p e R s m args below meth c ad H locs cells slots MC MS la Q X E S P a1 a2 a3 a4 L K)
theorem o_if_lt {a : Int} {off : Int} {tgt : Nat} (hd : decode M.2.1 pc = .ok (.ifCond .lt off, 3)) (ht : (pc : Int) + off = (tgt : Int)) (ha : o_R a) (k1 : a < 0 → o_V l M d al post tgt ls st n h mc ms) (k2 : ¬ (a < 0) → o_V l M d al post (pc + 3) ls st n h mc ms) : o_V l M d al post pc ls (.int (o_I a) :: st) n h mc ms := by
  intro Z p e R s m args below meth c ad H locs cells slots MC MS la Q X E S P a1 a2 a3 a4 L K
  exact lv_if_lt X.1 X.2.1 hd ht (fun q => k1 ((o_lt ha o_R0).mp q) Z p e R s m args below meth c ad H locs cells slots MC MS la Q X E S P a1 a2 a3 a4 L K) (fun q => k2 (fun z => q ((o_lt ha o_R0).mpr z)) Z p e R s m args below meth c ad H locs cells slots MC MS la Q X E S P a1 a2 a3 a4 L K)
theorem o_icmp_ge {a b : Int} {off : Int} {tgt : Nat} (hd : decode M.2.1 pc = .ok (.if_icmp .ge off, 3)) (ht : (pc : Int) + off = (tgt : Int)) (ha : o_R a) (hb : o_R b) (k1 : b ≤ a → o_V l M d al post tgt ls st n h mc ms) (k2 : ¬ (b ≤ a) → o_V l M d al post (pc + 3) ls st n h mc ms) : o_V l M d al post pc ls (.int (o_I b) :: .int (o_I a) :: st) n h mc ms := by
  intro Z p e R s m args below meth c ad H locs cells slots MC MS la Q X E S P a1 a2 a3 a4 L K
  exact lv_icmp_ge X.1 X.2.1 hd ht (fun q => k1 ((o_le hb ha).mp q) Z p e R s m args below meth c ad H locs cells slots MC MS la Q X E S P a1 a2 a3 a4 L K) (fun q => k2 (fun z => q ((o_le hb ha).mpr z)) Z p e R s m args below meth c ad H locs cells slots MC MS la Q X E S P a1 a2 a3 a4 L K)
theorem o_if_ge {a : Int} {off : Int} {tgt : Nat} (hd : decode M.2.1 pc = .ok (.ifCond .ge off, 3)) (ht : (pc : Int) + off = (tgt : Int)) (ha : o_R a) (k1 : 0 ≤ a → o_V l M d al post tgt ls st n h mc ms) (k2 : ¬ (0 ≤ a) → o_V l M d al post (pc + 3) ls st n h mc ms) : o_V l M d al post pc ls (.int (o_I a) :: st) n h mc ms := by
  intro Z p e R s m args below meth c ad H locs cells slots MC MS la Q X E S P a1 a2 a3 a4 L K
  exact lv_if_ge X.1 X.2.1 hd ht (fun q => k1 ((o_le o_R0 ha).mp q) Z p e R s m args below meth c ad H locs cells slots MC MS la Q X E S P a1 a2 a3 a4 L K) (fun q => k2 (fun z => q ((o_le o_R0 ha).mpr z)) Z p e R s m args below meth c ad H locs cells slots MC MS la Q X E S P a1 a2 a3 a4 L K)
theorem o_icmp_gt {a b : Int} {off : Int} {tgt : Nat} (hd : decode M.2.1 pc = .ok (.if_icmp .gt off, 3)) (ht : (pc : Int) + off = (tgt : Int)) (ha : o_R a) (hb : o_R b) (k1 : b < a → o_V l M d al post tgt ls st n h mc ms) (k2 : ¬ (b < a) → o_V l M d al post (pc + 3) ls st n h mc ms) : o_V l M d al post pc ls (.int (o_I b) :: .int (o_I a) :: st) n h mc ms := by
  intro Z p e R s m args below meth c ad H locs cells slots MC MS la Q X E S P a1 a2 a3 a4 L K
  exact lv_icmp_gt X.1 X.2.1 hd ht (fun q => k1 ((o_lt hb ha).mp q) Z p e R s m args below meth c ad H locs cells slots MC MS la Q X E S P a1 a2 a3 a4 L K) (fun q => k2 (fun z => q ((o_lt hb ha).mpr z)) Z p e R s m args below meth c ad H locs cells slots MC MS la Q X E S P a1 a2 a3 a4 L K)
theorem o_if_gt {a : Int} {off : Int} {tgt : Nat} (hd : decode M.2.1 pc = .ok (.ifCond .gt off, 3)) (ht : (pc : Int) + off = (tgt : Int)) (ha : o_R a) (k1 : 0 < a → o_V l M d al post tgt ls st n h mc ms) (k2 : ¬ (0 < a) → o_V l M d al post (pc + 3) ls st n h mc ms) : o_V l M d al post pc ls (.int (o_I a) :: st) n h mc ms := by
  intro Z p e R s m args below meth c ad H locs cells slots MC MS la Q X E S P a1 a2 a3 a4 L K
  exact lv_if_gt X.1 X.2.1 hd ht (fun q => k1 ((o_lt o_R0 ha).mp q) Z p e R s m args below meth c ad H locs cells slots MC MS la Q X E S P a1 a2 a3 a4 L K) (fun q => k2 (fun z => q ((o_lt o_R0 ha).mpr z)) Z p e R s m args below meth c ad H locs cells slots MC MS la Q X E S P a1 a2 a3 a4 L K)
theorem o_icmp_le {a b : Int} {off : Int} {tgt : Nat} (hd : decode M.2.1 pc = .ok (.if_icmp .le off, 3)) (ht : (pc : Int) + off = (tgt : Int)) (ha : o_R a) (hb : o_R b) (k1 : a ≤ b → o_V l M d al post tgt ls st n h mc ms) (k2 : ¬ (a ≤ b) → o_V l M d al post (pc + 3) ls st n h mc ms) : o_V l M d al post pc ls (.int (o_I b) :: .int (o_I a) :: st) n h mc ms := by
  intro Z p e R s m args below meth c ad H locs cells slots MC MS la Q X E S P a1 a2 a3 a4 L K
  exact lv_icmp_le X.1 X.2.1 hd ht (fun q => k1 ((o_le ha hb).mp q) Z p e R s m args below meth c ad H locs cells slots MC MS la Q X E S P a1 a2 a3 a4 L K) (fun q => k2 (fun z => q ((o_le ha hb).mpr z)) Z p e R s m args below meth c ad H locs cells slots MC MS la Q X E S P a1 a2 a3 a4 L K)
theorem o_if_le {a : Int} {off : Int} {tgt : Nat} (hd : decode M.2.1 pc = .ok (.ifCond .le off, 3)) (ht : (pc : Int) + off = (tgt : Int)) (ha : o_R a) (k1 : a ≤ 0 → o_V l M d al post tgt ls st n h mc ms) (k2 : ¬ (a ≤ 0) → o_V l M d al post (pc + 3) ls st n h mc ms) : o_V l M d al post pc ls (.int (o_I a) :: st) n h mc ms := by
  intro Z p e R s m args below meth c ad H locs cells slots MC MS la Q X E S P a1 a2 a3 a4 L K
  exact lv_if_le X.1 X.2.1 hd ht (fun q => k1 ((o_le ha o_R0).mp q) Z p e R s m args below meth c ad H locs cells slots MC MS la Q X E S P a1 a2 a3 a4 L K) (fun q => k2 (fun z => q ((o_le ha o_R0).mpr z)) Z p e R s m args below meth c ad H locs cells slots MC MS la Q X E S P a1 a2 a3 a4 L K)
theorem o_ifx_eq {x : Int32} {off : Int} {tgt : Nat} (hd : decode M.2.1 pc = .ok (.ifCond .eq off, 3)) (ht : (pc : Int) + off = (tgt : Int)) (k1 : x = 0 → o_V l M d al post tgt ls st n h mc ms) (k2 : ¬ (x = 0) → o_V l M d al post (pc + 3) ls st n h mc ms) : o_V l M d al post pc ls (.int x :: st) n h mc ms := by
  intro Z p e R s m args below meth c ad H locs cells slots MC MS la Q X E S P a1 a2 a3 a4 L K
  exact lv_if_eq X.1 X.2.1 hd ht (fun q => k1 q Z p e R s m args below meth c ad H locs cells slots MC MS la Q X E S P a1 a2 a3 a4 L K) (fun q => k2 q Z p e R s m args below meth c ad H locs cells slots MC MS la Q X E S P a1 a2 a3 a4 L K)
theorem o_goto {off : Int} {tgt : Nat} (hd : decode M.2.1 pc = .ok (.goto off, 3)) (ht : (pc : Int) + off = (tgt : Int)) (k : o_V l M d al post tgt ls st n h mc ms) : o_V l M d al post pc ls st n h mc ms := by
  intro Z p e R s m args below meth c ad H locs cells slots MC MS la Q X E S P a1 a2 a3 a4 L K
  exact lv_goto X.1 X.2.1 hd ht (k Z p e R s m args below meth c ad H locs cells slots MC MS la Q X E S P a1 a2 a3 a4 L K)
theorem o_ifnonnull {x : Nat} {off : Int} {tgt : Nat} (hd : decode M.2.1 pc = .ok (.ifnonnull off, 3)) (ht : (pc : Int) + off = (tgt : Int)) (k : o_V l M d al post tgt ls st n h mc ms) : o_V l M d al post pc ls (.ref x :: st) n h mc ms := by
  intro Z p e R s m args below meth c ad H locs cells slots MC MS la Q X E S P a1 a2 a3 a4 L K
  exact lv_ifnonnull X.1 X.2.1 hd ht (k Z p e R s m args below meth c ad H locs cells slots MC MS la Q X E S P a1 a2 a3 a4 L K)
theorem o_ifnonnullN {off : Int} (hd : decode M.2.1 pc = .ok (.ifnonnull off, 3)) (k : o_V l M d al post (pc + 3) ls st n h mc ms) : o_V l M d al post pc ls (.null :: st) n h mc ms := by
  intro Z p e R s m args below meth c ad H locs cells slots MC MS la Q X E S P a1 a2 a3 a4 L K
  exact lv_ifnonnullN X.1 X.2.1 hd (k Z p e R s m args below meth c ad H locs cells slots MC MS la Q X E S P a1 a2 a3 a4 L K)
theorem o_ifnull {x : Nat} {off : Int} (hd : decode M.2.1 pc = .ok (.ifnull off, 3)) (k : o_V l M d al post (pc + 3) ls st n h mc ms) : o_V l M d al post pc ls (.ref x :: st) n h mc ms := by
  intro Z p e R s m args below meth c ad H locs cells slots MC MS la Q X E S P a1 a2 a3 a4 L K
  exact lv_ifnull X.1 X.2.1 hd (k Z p e R s m args below meth c ad H locs cells slots MC MS la Q X E S P a1 a2 a3 a4 L K)
theorem o_lookup {dflt : Int} {ps : Array (Int × Int)} {len : Nat} {x : Int32} {off : Int} {tgt : Nat} (hd : decode M.2.1 pc = .ok (.lookupswitch dflt ps, len)) (hp : (ps.toList.zip (ps.toList.drop 1)).all (fun (a, next) => a.1 < next.1) = true) (ho : Op.lookupswitch.offset ps.toList dflt x.toInt = off) (ht : (pc : Int) + off = (tgt : Int)) (k : o_V l M d al post tgt ls st n h mc ms) : o_V l M d al post pc ls (.int x :: st) n h mc ms := by
  intro Z p e R s m args below meth c ad H locs cells slots MC MS la Q X E S P a1 a2 a3 a4 L K
  exact lv_lookup X.1 X.2.1 hd hp ho ht (k Z p e R s m args below meth c ad H locs cells slots MC MS la Q X E S P a1 a2 a3 a4 L K)
theorem o_tableOut {dflt lo hi : Int} {offs : Array Int} {len : Nat} {x : Int32} {tgt : Nat} (hd : decode M.2.1 pc = .ok (.tableswitch dflt lo hi offs, len)) (h9 : x.toInt < lo ∨ hi < x.toInt) (ht : (pc : Int) + dflt = (tgt : Int)) (k : o_V l M d al post tgt ls st n h mc ms) : o_V l M d al post pc ls (.int x :: st) n h mc ms := by
  intro Z p e R s m args below meth c ad H locs cells slots MC MS la Q X E S P a1 a2 a3 a4 L K
  exact lv_tableOut X.1 X.2.1 hd h9 ht (k Z p e R s m args below meth c ad H locs cells slots MC MS la Q X E S P a1 a2 a3 a4 L K)
theorem o_tableIn {dflt lo hi : Int} {offs : Array Int} {len : Nat} {x : Int32} {off : Int} {tgt : Nat} (hd : decode M.2.1 pc = .ok (.tableswitch dflt lo hi offs, len)) (h1 : ¬ x.toInt < lo) (h2 : ¬ hi < x.toInt) (ho : offs[(x.toInt - lo).toNat]? = some off) (ht : (pc : Int) + off = (tgt : Int)) (k : o_V l M d al post tgt ls st n h mc ms) : o_V l M d al post pc ls (.int x :: st) n h mc ms := by
  intro Z p e R s m args below meth c ad H locs cells slots MC MS la Q X E S P a1 a2 a3 a4 L K
  exact lv_tableIn X.1 X.2.1 hd h1 h2 ho ht (k Z p e R s m args below meth c ad H locs cells slots MC MS la Q X E S P a1 a2 a3 a4 L K)
/-- the same variables, in another order, or fewer -/
theorem o_loc (ls' : List (Nat × Value)) (hq : ls'.map (fun q => o_get ls q.1) = ls'.map (fun q => some q.2)) (k : o_V l M d al post pc ls' st n h mc ms) : o_V l M d al post pc ls st n h mc ms := by
  intro Z p e R s m args below meth c ad H locs cells slots MC MS la Q X E S P a1 a2 a3 a4 L K
  refine k Z p e R s m args below meth c ad H locs cells slots MC MS la Q X E S P a1 a2 a3 a4 ⟨L.1, L.2.1, fun q hq' => ?_⟩ K
  obtain ⟨r, hr, rfl⟩ := List.mem_map.mp hq'
  have h9 : o_get ls r.1 = some r.2 := by
    obtain ⟨j, hj⟩ := List.getElem?_of_mem hr
    have := congrArg (fun l => l[j]?) hq
    simpa [hj] using this
  exact o_lat L h9
/-- less room -/
theorem o_mono {mc' ms' : Nat} (h1 : mc' ≤ mc) (h2 : ms' ≤ ms) (k : o_V l M d al post pc ls st n h mc' ms') : o_V l M d al post pc ls st n h mc ms := by
  intro Z p e R s m args below meth c ad H locs cells slots MC MS la Q X E S P a1 a2 a3 a4 L K
  exact k Z p e R s m args below meth c ad H locs cells slots MC MS la Q X E S P (by omega) (by omega) a3 a4 L K
end OR
