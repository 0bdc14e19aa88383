/-! rows over a run whose script is given -/
def o_Vz (Z : o_Z) (l : Launch) (M : o_M) (d : Nat) (al : Nat → Prop) (post : o_P) (pc : Nat) (ls : List (Nat × Value)) (st : List Value) (n : Nat) (h : Nat → o_C) (mc ms : Nat) : Prop :=
  ∀ (p : Program) (e : Env) (R : Room) (s : State) (m : MethodId) (args : Array Value) (below : List Frame) (meth : Method) (c : Code) (ad : Nat → Nat) (H : Heap) (locs : List Loc) (cells slots MC MS : Nat) (la : Array Slot) (Q : State → Prop),
    o_X l M d p R s m args meth c → o_Ex Z ad s → va_S (o_A Z) s.heap H locs → o_Rp Z ad n h H → cells + mc ≤ MC → slots + ms ≤ MS → MC ≤ R.cells → MS ≤ R.slots → lv_has la M.2.2.1 (ls.map (fun q => (q.1, o_rV ad q.2))) →
    o_K l M Z p e R s m args below meth c ad MC MS Q al post →
    W p l e R s m args below meth c H locs cells slots Q (F0 m pc la (st.map (o_rV ad)))
section OZ
variable {Z : o_Z} {l : Launch} {M : o_M} {d : Nat} {al : Nat → Prop} {post : o_P} {pc : Nat} {ls : List (Nat × Value)} {st : List Value} {n : Nat} {h : Nat → o_C} {mc ms : Nat}
theorem oz_iconst {z : Int} (hd : decode M.2.1 pc = .ok (.iconst z, 1)) (k : o_Vz Z l M d al post (pc + 1) ls (.int (o_I z) :: st) n h mc ms) : o_Vz Z l M d al post pc ls st n h mc ms := by
  intro p e R s m args below meth c ad H locs cells slots MC MS la Q X E S P a1 a2 a3 a4 L K
  exact lv_iconst X.1 X.2.1 hd rfl (k p e R s m args below meth c ad H locs cells slots MC MS la Q X E S P a1 a2 a3 a4 L K)
theorem oz_lconst {z : Fin 2} (hd : decode M.2.1 pc = .ok (.lconst z, 1)) (k : o_Vz Z l M d al post (pc + 1) ls (.long (Int64.ofNat (z : Nat)) :: st) n h mc ms) : o_Vz Z l M d al post pc ls st n h mc ms := by
  intro p e R s m args below meth c ad H locs cells slots MC MS la Q X E S P a1 a2 a3 a4 L K
  exact lv_lconst X.1 X.2.1 hd rfl (k p e R s m args below meth c ad H locs cells slots MC MS la Q X E S P a1 a2 a3 a4 L K)
theorem oz_bipush {z : Int} (hd : decode M.2.1 pc = .ok (.bipush z, 2)) (hv : (Int8.ofInt z).toInt32 = o_I z) (k : o_Vz Z l M d al post (pc + 2) ls (.int (o_I z) :: st) n h mc ms) : o_Vz Z l M d al post pc ls st n h mc ms := by
  intro p e R s m args below meth c ad H locs cells slots MC MS la Q X E S P a1 a2 a3 a4 L K
  exact lv_bipush X.1 X.2.1 hd hv (k p e R s m args below meth c ad H locs cells slots MC MS la Q X E S P a1 a2 a3 a4 L K)
theorem oz_iload {i : Nat} {x : Int32} (hd : decode M.2.1 pc = .ok (.iload i, 2)) (hg : o_get ls i = some (.int x)) (k : o_Vz Z l M d al post (pc + 2) ls (.int x :: st) n h mc ms) : o_Vz Z l M d al post pc ls st n h mc ms := by
  intro p e R s m args below meth c ad H locs cells slots MC MS la Q X E S P a1 a2 a3 a4 L K
  exact lv_iload X.1 X.2.1 hd (o_lat L hg) (k p e R s m args below meth c ad H locs cells slots MC MS la Q X E S P a1 a2 a3 a4 L K)
theorem oz_aload_n {k0 : Fin 4} {x : Nat} (hd : decode M.2.1 pc = .ok (.aload_n k0, 1)) (hg : o_get ls (k0 : Nat) = some (.ref x)) (k : o_Vz Z l M d al post (pc + 1) ls (.ref x :: st) n h mc ms) : o_Vz Z l M d al post pc ls st n h mc ms := by
  intro p e R s m args below meth c ad H locs cells slots MC MS la Q X E S P a1 a2 a3 a4 L K
  exact lv_aload_n X.1 X.2.1 hd rfl (o_lat L hg) (k p e R s m args below meth c ad H locs cells slots MC MS la Q X E S P a1 a2 a3 a4 L K)
theorem oz_aload {i : Nat} {x : Nat} (hd : decode M.2.1 pc = .ok (.aload i, 2)) (hg : o_get ls i = some (.ref x)) (k : o_Vz Z l M d al post (pc + 2) ls (.ref x :: st) n h mc ms) : o_Vz Z l M d al post pc ls st n h mc ms := by
  intro p e R s m args below meth c ad H locs cells slots MC MS la Q X E S P a1 a2 a3 a4 L K
  exact lv_aload X.1 X.2.1 hd (o_lat L hg) (k p e R s m args below meth c ad H locs cells slots MC MS la Q X E S P a1 a2 a3 a4 L K)
theorem oz_istore {i : Nat} {x : Int32} (hd : decode M.2.1 pc = .ok (.istore i, 2)) (hn : i < M.2.2.1) (k : o_Vz Z l M d al post (pc + 2) (o_s1 ls i (.int x)) st n h mc ms) : o_Vz Z l M d al post pc ls (.int x :: st) n h mc ms := by
  intro p e R s m args below meth c ad H locs cells slots MC MS la Q X E S P a1 a2 a3 a4 L K
  exact lv_istore X.1 X.2.1 hd L hn (o_s1_map ad (v := .int x)).symm (fun la' L' => (k p e R s m args below meth c ad H locs cells slots MC MS la' Q X E S P a1 a2 a3 a4 L' K))
theorem oz_fstore {i : Nat} {x : UInt32} (hd : decode M.2.1 pc = .ok (.fstore i, 2)) (hn : i < M.2.2.1) (k : o_Vz Z l M d al post (pc + 2) (o_s1 ls i (.float x)) st n h mc ms) : o_Vz Z l M d al post pc ls (.float x :: st) n h mc ms := by
  intro p e R s m args below meth c ad H locs cells slots MC MS la Q X E S P a1 a2 a3 a4 L K
  exact lv_fstore X.1 X.2.1 hd L hn (o_s1_map ad (v := .float x)).symm (fun la' L' => (k p e R s m args below meth c ad H locs cells slots MC MS la' Q X E S P a1 a2 a3 a4 L' K))
theorem oz_dstore {i : Nat} {x : UInt64} (hd : decode M.2.1 pc = .ok (.dstore i, 2)) (hn : i + 1 < M.2.2.1) (k : o_Vz Z l M d al post (pc + 2) (o_s2 ls i (.double x)) st n h mc ms) : o_Vz Z l M d al post pc ls (.double x :: st) n h mc ms := by
  intro p e R s m args below meth c ad H locs cells slots MC MS la Q X E S P a1 a2 a3 a4 L K
  exact lv_dstore X.1 X.2.1 hd L hn (o_s2_map ad (v := .double x)).symm (fun la' L' => (k p e R s m args below meth c ad H locs cells slots MC MS la' Q X E S P a1 a2 a3 a4 L' K))
theorem oz_astore_n {k0 : Fin 4} {x : Nat} (hd : decode M.2.1 pc = .ok (.astore_n k0, 1)) (hn : (k0 : Nat) < M.2.2.1) (k : o_Vz Z l M d al post (pc + 1) (o_s1 ls (k0 : Nat) (.ref x)) st n h mc ms) : o_Vz Z l M d al post pc ls (.ref x :: st) n h mc ms := by
  intro p e R s m args below meth c ad H locs cells slots MC MS la Q X E S P a1 a2 a3 a4 L K
  exact lv_astore_n X.1 X.2.1 hd rfl L hn (o_s1_map ad (v := .ref x)).symm (fun la' L' => (k p e R s m args below meth c ad H locs cells slots MC MS la' Q X E S P a1 a2 a3 a4 L' K))
theorem oz_astore {i : Nat} {x : Nat} (hd : decode M.2.1 pc = .ok (.astore i, 2)) (hn : i < M.2.2.1) (k : o_Vz Z l M d al post (pc + 2) (o_s1 ls i (.ref x)) st n h mc ms) : o_Vz Z l M d al post pc ls (.ref x :: st) n h mc ms := by
  intro p e R s m args below meth c ad H locs cells slots MC MS la Q X E S P a1 a2 a3 a4 L K
  exact lv_astore X.1 X.2.1 hd L hn (o_s1_map ad (v := .ref x)).symm (fun la' L' => (k p e R s m args below meth c ad H locs cells slots MC MS la' Q X E S P a1 a2 a3 a4 L' K))
theorem oz_dload {i : Nat} {x : UInt64} (hd : decode M.2.1 pc = .ok (.dload i, 2)) (hg : o_get ls i = some (.double x)) (k : o_Vz Z l M d al post (pc + 2) ls (.double x :: st) n h mc ms) : o_Vz Z l M d al post pc ls st n h mc ms := by
  intro p e R s m args below meth c ad H locs cells slots MC MS la Q X E S P a1 a2 a3 a4 L K
  exact lv_dload X.1 X.2.1 hd (o_lat L hg) (k p e R s m args below meth c ad H locs cells slots MC MS la Q X E S P a1 a2 a3 a4 L K)
theorem oz_fload {i : Nat} {x : UInt32} (hd : decode M.2.1 pc = .ok (.fload i, 2)) (hg : o_get ls i = some (.float x)) (k : o_Vz Z l M d al post (pc + 2) ls (.float x :: st) n h mc ms) : o_Vz Z l M d al post pc ls st n h mc ms := by
  intro p e R s m args below meth c ad H locs cells slots MC MS la Q X E S P a1 a2 a3 a4 L K
  exact lv_fload X.1 X.2.1 hd (o_lat L hg) (k p e R s m args below meth c ad H locs cells slots MC MS la Q X E S P a1 a2 a3 a4 L K)
theorem oz_iinc {i : Nat} {z a : Int} (hd : decode M.2.1 pc = .ok (.iinc i z, 3)) (hg : o_get ls i = some (.int (o_I a))) (hn : i < M.2.2.1) (k : o_Vz Z l M d al post (pc + 3) (o_s1 ls i (.int (o_I (a + z)))) st n h mc ms) : o_Vz Z l M d al post pc ls st n h mc ms := by
  intro p e R s m args below meth c ad H locs cells slots MC MS la Q X E S P a1 a2 a3 a4 L K
  obtain ⟨k0, hk0⟩ := List.getElem?_of_mem (o_get_mem hg)
  exact lv_iinc X.1 X.2.1 hd L (k := k0) (x := o_I a) (by rw [List.getElem?_map, hk0]; rfl) (o_add a z) hn (o_s1_map ad (v := .int (o_I (a + z)))).symm (fun la' L' => (k p e R s m args below meth c ad H locs cells slots MC MS la' Q X E S P a1 a2 a3 a4 L' K))
theorem oz_iadd {a b : Int} (hd : decode M.2.1 pc = .ok (.iadd, 1)) (k : o_Vz Z l M d al post (pc + 1) ls (.int (o_I (a + b)) :: st) n h mc ms) : o_Vz Z l M d al post pc ls (.int (o_I b) :: .int (o_I a) :: st) n h mc ms := by
  intro p e R s m args below meth c ad H locs cells slots MC MS la Q X E S P a1 a2 a3 a4 L K
  have k9 := k p e R s m args below meth c ad H locs cells slots MC MS la Q X E S P a1 a2 a3 a4 L K
  rw [List.map_cons, show o_rV ad (.int (o_I (a + b))) = .int (o_I a + o_I b) from congrArg Value.int (o_add a b).symm] at k9
  exact lv_iadd X.1 X.2.1 hd k9
theorem oz_isub {a b : Int} (hd : decode M.2.1 pc = .ok (.isub, 1)) (k : o_Vz Z l M d al post (pc + 1) ls (.int (o_I (a - b)) :: st) n h mc ms) : o_Vz Z l M d al post pc ls (.int (o_I b) :: .int (o_I a) :: st) n h mc ms := by
  intro p e R s m args below meth c ad H locs cells slots MC MS la Q X E S P a1 a2 a3 a4 L K
  have k9 := k p e R s m args below meth c ad H locs cells slots MC MS la Q X E S P a1 a2 a3 a4 L K
  rw [List.map_cons, show o_rV ad (.int (o_I (a - b))) = .int (o_I a - o_I b) from congrArg Value.int (o_sub a b).symm] at k9
  exact lv_isub X.1 X.2.1 hd k9
theorem oz_iand {x y : Int32} (hd : decode M.2.1 pc = .ok (.iand, 1)) (k : o_Vz Z l M d al post (pc + 1) ls (.int (x &&& y) :: st) n h mc ms) : o_Vz Z l M d al post pc ls (.int y :: .int x :: st) n h mc ms := by
  intro p e R s m args below meth c ad H locs cells slots MC MS la Q X E S P a1 a2 a3 a4 L K
  exact lv_iand X.1 X.2.1 hd (k p e R s m args below meth c ad H locs cells slots MC MS la Q X E S P a1 a2 a3 a4 L K)
theorem oz_i2c {x : Int32} (hd : decode M.2.1 pc = .ok (.i2c, 1)) (k : o_Vz Z l M d al post (pc + 1) ls (.int (x.toUInt32 % 65536).toInt32 :: st) n h mc ms) : o_Vz Z l M d al post pc ls (.int x :: st) n h mc ms := by
  intro p e R s m args below meth c ad H locs cells slots MC MS la Q X E S P a1 a2 a3 a4 L K
  exact lv_i2c X.1 X.2.1 hd rfl (k p e R s m args below meth c ad H locs cells slots MC MS la Q X E S P a1 a2 a3 a4 L K)
theorem oz_i2l {x : Int32} (hd : decode M.2.1 pc = .ok (.i2l, 1)) (k : o_Vz Z l M d al post (pc + 1) ls (.long x.toInt64 :: st) n h mc ms) : o_Vz Z l M d al post pc ls (.int x :: st) n h mc ms := by
  intro p e R s m args below meth c ad H locs cells slots MC MS la Q X E S P a1 a2 a3 a4 L K
  exact lv_i2l X.1 X.2.1 hd rfl (k p e R s m args below meth c ad H locs cells slots MC MS la Q X E S P a1 a2 a3 a4 L K)
theorem oz_f2d {x : UInt32} (hd : decode M.2.1 pc = .ok (.f2d, 1)) (hne : vf_n64 (FP.f2d x)) (k : o_Vz Z l M d al post (pc + 1) ls (.double (FP.f2d x) :: st) n h mc ms) : o_Vz Z l M d al post pc ls (.float x :: st) n h mc ms := by
  intro p e R s m args below meth c ad H locs cells slots MC MS la Q X E S P a1 a2 a3 a4 L K
  exact lv_f2d X.1 X.2.1 hd hne (k p e R s m args below meth c ad H locs cells slots MC MS la Q X E S P a1 a2 a3 a4 L K)
theorem oz_lcmp {x y : Int64} (hd : decode M.2.1 pc = .ok (.lcmp, 1)) (k : o_Vz Z l M d al post (pc + 1) ls (.int (lg_cmp x y) :: st) n h mc ms) : o_Vz Z l M d al post pc ls (.long y :: .long x :: st) n h mc ms := by
  intro p e R s m args below meth c ad H locs cells slots MC MS la Q X E S P a1 a2 a3 a4 L K
  exact W.lcmp X.1 X.2.1 hd (k p e R s m args below meth c ad H locs cells slots MC MS la Q X E S P a1 a2 a3 a4 L K)
theorem oz_dcmp {x y : UInt64} {op : CmpOp} (hd : decode M.2.1 pc = .ok (.dcmp op, 1)) (k : o_Vz Z l M d al post (pc + 1) ls (.int (Op.cmpValue (FP.dcmp x y) op) :: st) n h mc ms) : o_Vz Z l M d al post pc ls (.double y :: .double x :: st) n h mc ms := by
  intro p e R s m args below meth c ad H locs cells slots MC MS la Q X E S P a1 a2 a3 a4 L K
  exact lv_dcmp X.1 X.2.1 hd (k p e R s m args below meth c ad H locs cells slots MC MS la Q X E S P a1 a2 a3 a4 L K)
theorem oz_fcmp {x y : UInt32} {op : CmpOp} (hd : decode M.2.1 pc = .ok (.fcmp op, 1)) (k : o_Vz Z l M d al post (pc + 1) ls (.int (Op.cmpValue (FP.fcmp x y) op) :: st) n h mc ms) : o_Vz Z l M d al post pc ls (.float y :: .float x :: st) n h mc ms := by
  intro p e R s m args below meth c ad H locs cells slots MC MS la Q X E S P a1 a2 a3 a4 L K
  exact lv_fcmp X.1 X.2.1 hd (k p e R s m args below meth c ad H locs cells slots MC MS la Q X E S P a1 a2 a3 a4 L K)
theorem oz_dup {u : Value} (hd : decode M.2.1 pc = .ok (.dup, 1)) (hu : u.category = 1) (k : o_Vz Z l M d al post (pc + 1) ls (u :: u :: st) n h mc ms) : o_Vz Z l M d al post pc ls (u :: st) n h mc ms := by
  intro p e R s m args below meth c ad H locs cells slots MC MS la Q X E S P a1 a2 a3 a4 L K
  exact lv_dup X.1 X.2.1 hd (by rw [o_cat]; exact hu) (k p e R s m args below meth c ad H locs cells slots MC MS la Q X E S P a1 a2 a3 a4 L K)
theorem oz_icmp_gt {a b : Int} {off : Int} {tgt : Nat} (hd : decode M.2.1 pc = .ok (.if_icmp .gt off, 3)) (ht : (pc : Int) + off = (tgt : Int)) (ha : o_R a) (hb : o_R b) (k1 : b < a → o_Vz Z l M d al post tgt ls st n h mc ms) (k2 : ¬ (b < a) → o_Vz Z l M d al post (pc + 3) ls st n h mc ms) : o_Vz Z l M d al post pc ls (.int (o_I b) :: .int (o_I a) :: st) n h mc ms := by
  intro p e R s m args below meth c ad H locs cells slots MC MS la Q X E S P a1 a2 a3 a4 L K
  exact lv_icmp_gt X.1 X.2.1 hd ht (fun q => k1 ((o_lt hb ha).mp q) p e R s m args below meth c ad H locs cells slots MC MS la Q X E S P a1 a2 a3 a4 L K) (fun q => k2 (fun z => q ((o_lt hb ha).mpr z)) p e R s m args below meth c ad H locs cells slots MC MS la Q X E S P a1 a2 a3 a4 L K)
theorem oz_ifx_eq {x : Int32} {off : Int} {tgt : Nat} (hd : decode M.2.1 pc = .ok (.ifCond .eq off, 3)) (ht : (pc : Int) + off = (tgt : Int)) (k1 : x = 0 → o_Vz Z l M d al post tgt ls st n h mc ms) (k2 : ¬ (x = 0) → o_Vz Z l M d al post (pc + 3) ls st n h mc ms) : o_Vz Z l M d al post pc ls (.int x :: st) n h mc ms := by
  intro p e R s m args below meth c ad H locs cells slots MC MS la Q X E S P a1 a2 a3 a4 L K
  exact lv_if_eq X.1 X.2.1 hd ht (fun q => k1 q p e R s m args below meth c ad H locs cells slots MC MS la Q X E S P a1 a2 a3 a4 L K) (fun q => k2 q p e R s m args below meth c ad H locs cells slots MC MS la Q X E S P a1 a2 a3 a4 L K)
theorem oz_ifx_ne {x : Int32} {off : Int} {tgt : Nat} (hd : decode M.2.1 pc = .ok (.ifCond .ne off, 3)) (ht : (pc : Int) + off = (tgt : Int)) (k1 : ¬ x = 0 → o_Vz Z l M d al post tgt ls st n h mc ms) (k2 : x = 0 → o_Vz Z l M d al post (pc + 3) ls st n h mc ms) : o_Vz Z l M d al post pc ls (.int x :: st) n h mc ms := by
  intro p e R s m args below meth c ad H locs cells slots MC MS la Q X E S P a1 a2 a3 a4 L K
  exact lv_if_ne X.1 X.2.1 hd ht (fun q => k1 q p e R s m args below meth c ad H locs cells slots MC MS la Q X E S P a1 a2 a3 a4 L K) (fun q => k2 q p e R s m args below meth c ad H locs cells slots MC MS la Q X E S P a1 a2 a3 a4 L K)
theorem oz_goto {off : Int} {tgt : Nat} (hd : decode M.2.1 pc = .ok (.goto off, 3)) (ht : (pc : Int) + off = (tgt : Int)) (k : o_Vz Z l M d al post tgt ls st n h mc ms) : o_Vz Z l M d al post pc ls st n h mc ms := by
  intro p e R s m args below meth c ad H locs cells slots MC MS la Q X E S P a1 a2 a3 a4 L K
  exact lv_goto X.1 X.2.1 hd ht (k p e R s m args below meth c ad H locs cells slots MC MS la Q X E S P a1 a2 a3 a4 L K)
theorem oz_tableIn {dflt lo hi : Int} {offs : Array Int} {len : Nat} {x : Int32} {off : Int} {tgt : Nat} (hd : decode M.2.1 pc = .ok (.tableswitch dflt lo hi offs, len)) (h1 : ¬ x.toInt < lo) (h2 : ¬ hi < x.toInt) (ho : offs[(x.toInt - lo).toNat]? = some off) (ht : (pc : Int) + off = (tgt : Int)) (k : o_Vz Z l M d al post tgt ls st n h mc ms) : o_Vz Z l M d al post pc ls (.int x :: st) n h mc ms := by
  intro p e R s m args below meth c ad H locs cells slots MC MS la Q X E S P a1 a2 a3 a4 L K
  exact lv_tableIn X.1 X.2.1 hd h1 h2 ho ht (k p e R s m args below meth c ad H locs cells slots MC MS la Q X E S P a1 a2 a3 a4 L K)
theorem oz_tableOut {dflt lo hi : Int} {offs : Array Int} {len : Nat} {x : Int32} {tgt : Nat} (hd : decode M.2.1 pc = .ok (.tableswitch dflt lo hi offs, len)) (h9 : x.toInt < lo ∨ hi < x.toInt) (ht : (pc : Int) + dflt = (tgt : Int)) (k : o_Vz Z l M d al post tgt ls st n h mc ms) : o_Vz Z l M d al post pc ls (.int x :: st) n h mc ms := by
  intro p e R s m args below meth c ad H locs cells slots MC MS la Q X E S P a1 a2 a3 a4 L K
  exact lv_tableOut X.1 X.2.1 hd h9 ht (k p e R s m args below meth c ad H locs cells slots MC MS la Q X E S P a1 a2 a3 a4 L K)
theorem oz_loc (ls' : List (Nat × Value)) (hq : ls'.map (fun q => o_get ls q.1) = ls'.map (fun q => some q.2)) (k : o_Vz Z l M d al post pc ls' st n h mc ms) : o_Vz Z l M d al post pc ls st n h mc ms := by
  intro p e R s m args below meth c ad H locs cells slots MC MS la Q X E S P a1 a2 a3 a4 L K
  refine k p e R s m args below meth c ad H locs cells slots MC MS la Q X E S P a1 a2 a3 a4 ⟨L.1, L.2.1, fun q hq' => ?_⟩ K
  obtain ⟨r, hr, rfl⟩ := List.mem_map.mp hq'
  have h9 : o_get ls r.1 = some r.2 := by
    obtain ⟨j, hj⟩ := List.getElem?_of_mem hr
    have := congrArg (fun l => l[j]?) hq
    simpa [hj] using this
  exact o_lat L h9
theorem oz_mono {mc' ms' : Nat} (h1 : mc' ≤ mc) (h2 : ms' ≤ ms) (k : o_Vz Z l M d al post pc ls st n h mc' ms') : o_Vz Z l M d al post pc ls st n h mc ms := by
  intro p e R s m args below meth c ad H locs cells slots MC MS la Q X E S P a1 a2 a3 a4 L K
  exact k p e R s m args below meth c ad H locs cells slots MC MS la Q X E S P (by omega) (by omega) a3 a4 L K
theorem oz_lald {b len : Nat} {f : Nat → Int64} {i : Int} (hd : decode M.2.1 pc = .ok (.laload, 1)) (hb : b < n) (hh : h b = .inl (4, len, .inr (.inl f))) (hle : len ≤ 2147483647) (h0 : 0 ≤ i) (h1 : i < len) (k9 : o_Vz Z l M d al post (pc + 1) ls (.long (f i.toNat) :: st) n h mc ms) : o_Vz Z l M d al post pc ls (.int (o_I i) :: .ref b :: st) n h mc ms := by
  intro p e R s m args below meth c ad H locs cells slots MC MS la Q X E S P a1 a2 a3 a4 L K
  have k8 := k9 p e R s m args below meth c ad H locs cells slots MC MS la Q X E S P a1 a2 a3 a4 L K
  rw [← o_clamp (o_inR hle h0 h1)] at k8
  exact va_lald (D := Z.2.1) (cl := o_cl) (tys := o_tys Z) X.1 X.2.1 E.2.1 P.1 b 4 (o_rW_get hb hh) (o_tys_get rfl) (o_in (o_inR hle h0 h1) h0 h1) hd k8
theorem oz_dald {b len : Nat} {f : Nat → UInt64} {i : Int} (hd : decode M.2.1 pc = .ok (.daload, 1)) (hb : b < n) (hh : h b = .inl (5, len, .inr (.inr (.inr (.inl f))))) (hle : len ≤ 2147483647) (h0 : 0 ≤ i) (h1 : i < len) (k9 : o_Vz Z l M d al post (pc + 1) ls (.double (f i.toNat) :: st) n h mc ms) : o_Vz Z l M d al post pc ls (.int (o_I i) :: .ref b :: st) n h mc ms := by
  intro p e R s m args below meth c ad H locs cells slots MC MS la Q X E S P a1 a2 a3 a4 L K
  have k8 := k9 p e R s m args below meth c ad H locs cells slots MC MS la Q X E S P a1 a2 a3 a4 L K
  rw [← o_clamp (o_inR hle h0 h1)] at k8
  exact va_dald (D := Z.2.1) (cl := o_cl) (tys := o_tys Z) X.1 X.2.1 E.2.1 P.1 b 5 (o_rW_get hb hh) (o_tys_get rfl) (o_in (o_inR hle h0 h1) h0 h1) hd k8
theorem oz_ret (v : Option Value) (hd : decode M.2.1 pc = .ok (o_ri M.2.2.2.1, 1)) (hk : o_rok M.2.2.2.1 v) (hp : post (.inl v) n h) : o_Vz Z l M d al post pc ls v.toList n h mc ms := by
  intro p e R s m args below meth c ad H locs cells slots MC MS la Q X E S P a1 a2 a3 a4 L K
  exact K.1 v n h ad H locs cells slots pc la hp o_ag.rf P S (by omega) (by omega) hd hk
theorem oz_ret1 {v : Value} (hd : decode M.2.1 pc = .ok (o_ri M.2.2.2.1, 1)) (hk : o_rok M.2.2.2.1 (some v)) (hp : post (.inl (some v)) n h) : o_Vz Z l M d al post pc ls [v] n h mc ms := oz_ret (some v) hd hk hp
theorem oz_back {dy mcy msy : Nat} {aly : Nat → Prop} {posty : o_P} {Z : o_Z} {p : Program} {e : Env} {R : Room} {s : State} {m : MethodId} {args : Array Value} {below : List Frame} {meth : Method} {c : Code} {ad : Nat → Nat} {H : Heap} {locs : List Loc} {cells slots MC MS : Nat} {la : Array Slot} {Q : State → Prop} {a : Array Value} {rest st0 : List Value}
    (X : o_X l M d p R s m args meth c) (E : o_Ex Z ad s) (S : va_S (o_A Z) s.heap H locs) (a1 : cells + mc ≤ MC) (a2 : slots + ms ≤ MS) (a3 : MC ≤ R.cells) (a4 : MS ≤ R.slots) (L : lv_has la M.2.2.1 (ls.map (fun q => (q.1, o_rV ad q.2)))) (K : o_K l M Z p e R s m args below meth c ad MC MS Q al post)
    (hm : mcy ≤ mc) (hs : msy ≤ ms) (hal : ∀ k, aly k → al k) (hal9 : ∀ k, aly k → k < 1000000) (hfr : (∀ k, ¬ aly k) ∨ ((∀ q ∈ ls, ∀ k, q.2 = .ref k → ¬ aly k) ∧ ∀ v ∈ rest, ∀ k, v = .ref k → ¬ aly k))
    (hr : vx_Run p l e R s m args below meth c H locs cells slots mcy msy (F0 m pc la st0) (rest.map (o_rV ad)) (o_Qc Z ad aly posty a) (o_XC Z ad aly posty) (o_A Z))
    (k : ∀ v n' h', posty (.inl v) n' h' → o_Vz Z l M d al post (pc + 3) ls (v.toList ++ rest) n' h' (mc - mcy) (ms - msy))
    (kx : ∀ E n' h', posty (.inr E) n' h' → o_T l M d al post pc ls E n' h' (mc - mcy) (ms - msy)) :
    W p l e R s m args below meth c H locs cells slots Q (F0 m pc la st0) := by
  have nr : ∀ (ad' : Nat → Nat) (v : Value), o_ag aly ad ad' → (∀ k, v = .ref k → ¬ aly k) → o_rV ad' v = o_rV ad v := by
    intro ad' v hag hv
    cases v with
    | ref k => exact congrArg Value.ref (hag k (hv k rfl))
    | _ => rfl
  have nrl : ∀ (ad' : Nat → Nat), o_ag aly ad ad' → ls.map (fun q => (q.1, o_rV ad' q.2)) = ls.map (fun q => (q.1, o_rV ad q.2)) ∧ rest.map (o_rV ad') = rest.map (o_rV ad) := by
    intro ad' hag
    rcases hfr with hf | ⟨hf1, hf2⟩
    · have : ad' = ad := funext fun k => hag k (hf k)
      rw [this]
      exact ⟨rfl, rfl⟩
    · exact ⟨List.map_congr_left fun q hq => by rw [nr ad' q.2 hag (hf1 q hq)], List.map_congr_left fun v hv => nr ad' v hag (hf2 v hv)⟩
  have Kt : ∀ ad' : Nat → Nat, o_ag aly ad ad' → o_K l M Z p e R s m args below meth c ad' MC MS Q al post := fun ad' hag =>
    ⟨fun v n1 h1 ad1 H1 locs1 c1 s1 pc1 la1 q1 q2 => K.1 v n1 h1 ad1 H1 locs1 c1 s1 pc1 la1 q1 (o_ag.tr (bl := al) (fun k hk => hag k (fun z => hk (hal k z))) q2 (fun _ z => z)),
      fun E1 q9 ce n1 h1 ad1 H1 locs1 c1 s1 pc1 la1 rest1 q1 q2 => K.2 E1 q9 ce n1 h1 ad1 H1 locs1 c1 s1 pc1 la1 rest1 q1 (o_ag.tr (bl := al) (fun k hk => hag k (fun z => hk (hal k z))) q2 (fun _ z => z))⟩
  have Et : ∀ ad' : Nat → Nat, o_ag aly ad ad' → o_Ex Z ad' s := fun ad' hag => E.ad (fun k hk => hag k (fun z => by have := hal9 k z; omega))
  intro T hT X9
  rcases hr T hT X9 with ⟨v, st₀, t, T', Lc, hh0, X', hL, e1, e2, ⟨⟨v', n', h', ad', hv, hp, hag, hRp⟩, hF⟩, sg⟩ | ⟨q, st₀, t, T', Lc, E9, ce, hh0, X', hL, e1, e2, ⟨⟨n', h', ad', hp, hag, hRp⟩, hF⟩, hce, hcv, hcl, sg⟩
  · obtain ⟨k1, k2, k3⟩ := vx_keep (A0 := o_A Z) (A1 := o_A Z) (free := o_A Z) hh0 e1 S (fun _ _ z => z) (fun _ z => z) hL hF
    obtain ⟨w1, w2⟩ := nrl ad' hag
    have hv' : v = v'.map (o_rV ad') := by injection hv
    have k9 := k v' n' h' hp p e R s m args below meth c ad' T'.heap (locs ++ Lc) (cells + mcy) (slots + msy) MC MS la Q X (Et ad' hag) k3 (by rw [e1]; exact hRp) (by omega) (by omega) a3 a4 (by rw [w1]; exact L) (Kt ad' hag)
    rw [List.map_append, w2, show v'.toList.map (o_rV ad') = v.toList by rw [hv']; cases v' <;> rfl] at k9
    obtain ⟨t2, b1, b2⟩ := k9 T' rfl X'
    exact ⟨t2, sg t2 b1, b2⟩
  · obtain ⟨k1, k2, k3⟩ := vx_keep (A0 := o_A Z) (A1 := o_A Z) (free := o_A Z) hh0 e1 S (fun _ _ z => z) (fun _ z => z) hL hF
    obtain ⟨w1, w2⟩ := nrl ad' hag
    have k9 := kx E9 n' h' hp Z p e R s m args below meth c ad' T'.heap (locs ++ Lc) (cells + mcy) (slots + msy) MC MS la Q q ce (rest.map (o_rV ad)) X (Et ad' hag) k3 (by rw [e1]; exact hRp) (by omega) (by omega) a3 a4 (by rw [w1]; exact L) (Kt ad' hag) (by rw [e1]; exact hce) hcv hcl
    obtain ⟨t2, b1, b2⟩ := k9 T' rfl X'
    exact ⟨t2, sg.trans b1, b2⟩
theorem oz_callV {y : MethodName} {yb : ByteArray} {yL dy mcy msy index b ci N : Nat} {yr : Option FieldType} {aly : Nat → Prop} {posty : o_P} {T : u_T} {fs : List Value} (As : List Value) {rest : List Value}
    (hC : o_Ct l y (.code y yb yL yr) dy aly (.ref b :: As) n h mcy msy posty) (hd : decode M.2.1 pc = .ok (.invokevirtual index, 3)) (hw : Cond.methodLink M.1 index y ∈ o_gW) (hyw : o_yw y (.code y yb yL yr)) (hyd : o_yd y As.length = true) (hyL : yL ≤ 21)
    (hdy : dy < d) (hm : mcy ≤ mc) (hs : msy ≤ ms) (hb : b < n) (hh : h b = .inr (ci, fs)) (hc : o_cl[ci]? = some (y.cls, T, N)) (hst : st = As.reverse ++ .ref b :: rest) (hcat : (rest.map fun v => v.category).sum ≤ 8)
    (hal : ∀ k, aly k → al k) (hal9 : ∀ k, aly k → k < 1000000) (hfr : (∀ k, ¬ aly k) ∨ ((∀ q ∈ ls, ∀ k, q.2 = .ref k → ¬ aly k) ∧ ∀ v ∈ rest, ∀ k, v = .ref k → ¬ aly k))
    (k : ∀ v n' h', posty (.inl v) n' h' → o_Vz Z l M d al post (pc + 3) ls (v.toList ++ rest) n' h' (mc - mcy) (ms - msy))
    (kx : ∀ E n' h', posty (.inr E) n' h' → o_T l M d al post pc ls E n' h' (mc - mcy) (ms - msy)) : o_Vz Z l M d al post pc ls st n h mc ms := by
  intro p e R s m args below meth c ad H locs cells slots MC MS la Q X E S P a1 a2 a3 a4 L K
  obtain ⟨hx, hbb, hown, hts, hml, hr, hlk, htab, hst9, hfr9, hlo9⟩ := id X
  have hf1 : (o_rm dy mcy msy).frames + 1 ≤ R.frames := by show dy + 8 + 1 ≤ _; omega
  have hf2 : 8 + (yL + 11) + (o_rm dy mcy msy).locals ≤ R.locals := by show 8 + (yL + 11) + (40 * dy + 160) ≤ _; omega
  have cb : CallB R s args M.1 index y yb yL yr (.code y yb yL yr :: o_gW) (o_rm dy mcy msy) mcy msy As.length := callB_of (ws' := o_gW) As.length hts (o_gCode hyw.2.2.2) rfl rfl rfl (hts _ hyw.2.2.1) (hts _ hw) (o_yd_of hyd) ⟨hf1, hf2⟩
  have hrun := vx_runV (l := l) (e := e) (below := below) (meth := meth) (locs := locs) (cells := cells) (slots := slots) (H := H) (b := ad b) (As := As.map (o_rV ad)) (rest := rest.map (o_rV ad)) (C := y.cls) (Ts := o_gW) (nL := M.2.2.1) ⟨hx, hbb, hml, hown, hts⟩ (hC Z ad) ⟨cb, hts _ hyw.1, hts _ hyw.2.1⟩
    ⟨o_Pc.blind, va_recv (q0 := b) (ci := ci) E.2.1 P.1 hc (o_rW_get hb hh), (o_preS (As := .ref b :: As) E S P).2⟩ (g := F0 m pc la (st.map (o_rV ad))) rfl (by rw [List.length_map]) L.1 (by rw [hst]; simp [o_rV]) (by have := lv_room (m := m) (pc := pc) (ls := la) (rest := st.map (o_rV ad)) (st := rest.map (o_rV ad)) (by rw [o_cats]; exact hcat); exact this) hd ⟨by omega, by omega⟩
  exact oz_back (dy := dy) X E S a1 a2 a3 a4 L K hm hs hal hal9 hfr hrun k kx
theorem oz_callSW {y : MethodName} {yb : ByteArray} {yL dy mcy msy index : Nat} {yr : Option FieldType} {yh : List (Nat × Nat × Nat × Nat)} {aly : Nat → Prop} {posty : o_P} (As : List Value) {rest : List Value}
    (hC : o_Ct l y (.codeWith y yb yL yr yh) dy aly As n h mcy msy posty) (hno : ∀ E n' h', ¬ posty (.inr E) n' h') (hd : decode M.2.1 pc = .ok (.invokestatic index, 3)) (hw : Cond.methodLink M.1 index y ∈ o_gW) (hyw : o_ys y (.codeWith y yb yL yr yh)) (hyd : o_yd y As.length = true) (hyL : yL ≤ 21)
    (hdy : dy < d) (hm : mcy ≤ mc) (hs : msy ≤ ms) (hst : st = As.reverse ++ rest) (hcat : (rest.map fun v => v.category).sum ≤ 8)
    (hal : ∀ k, aly k → al k) (hal9 : ∀ k, aly k → k < 1000000) (hfr : (∀ k, ¬ aly k) ∨ ((∀ q ∈ ls, ∀ k, q.2 = .ref k → ¬ aly k) ∧ ∀ v ∈ rest, ∀ k, v = .ref k → ¬ aly k))
    (k : ∀ v n' h', posty (.inl v) n' h' → o_Vz Z l M d al post (pc + 3) ls (v.toList ++ rest) n' h' (mc - mcy) (ms - msy)) : o_Vz Z l M d al post pc ls st n h mc ms := by
  intro p e R s m args below meth c ad H locs cells slots MC MS la Q X E S P a1 a2 a3 a4 L K
  obtain ⟨hx, hbb, hown, hts, hml, hr, hlk, htab, hst9, hfr9, hlo9⟩ := id X
  have hf1 : (o_rm dy mcy msy).frames + 1 ≤ R.frames := by show dy + 8 + 1 ≤ _; omega
  have hf2 : 8 + (yL + 11) + (o_rm dy mcy msy).locals ≤ R.locals := by show 8 + (yL + 11) + (40 * dy + 160) ≤ _; omega
  have hT3 : ∀ w ∈ ([Cond.methodLink M.1 index y, Cond.static y, Cond.initialized y.cls] : List Cond), w ∈ o_gW := fun w hw9 => by
    simp only [List.mem_cons, List.not_mem_nil, or_false] at hw9
    rcases hw9 with rfl | rfl | rfl
    · exact hw
    · exact hyw.1
    · exact hyw.2.1
  have cb : vx_CSW R s args M.1 index y yb yL yr yh (.codeWith y yb yL yr yh :: o_gW) (o_rm dy mcy msy) mcy msy As.length := vx_cwSW (ws' := o_gW) (Ts := o_gW) As.length hts (fun w hw9 => (List.mem_append.mp hw9).elim (fun q => o_gIn (ws := [Cond.methodLink M.1 index y, Cond.static y, Cond.initialized y.cls]) hT3 w q) (fun q => o_gCode hyw.2.2 w q)) rfl rfl rfl (o_yd_of hyd) ⟨hf1, hf2⟩
  have hrun := vx_runSW (l := l) (e := e) (below := below) (meth := meth) (locs := locs) (cells := cells) (slots := slots) (H := H) (As := As.map (o_rV ad)) (rest := rest.map (o_rV ad)) (Ts := o_gW) (nL := M.2.2.1) ⟨hx, hbb, hml, hown, hts⟩ (o_met (hC Z ad) (fun E9 st9 t9 q => by obtain ⟨⟨n9, h9, ad9, q9, -⟩, -⟩ := q; exact hno _ _ _ q9)) cb
    (o_preS E S P) (g := F0 m pc la (st.map (o_rV ad))) rfl (by rw [List.length_map]) L.1 (by rw [hst]; simp) (by have := lv_room (m := m) (pc := pc) (ls := la) (rest := st.map (o_rV ad)) (st := rest.map (o_rV ad)) (by rw [o_cats]; exact hcat); exact this) hd ⟨by omega, by omega⟩
  exact oz_back (dy := dy) (posty := posty) (aly := aly) X E S a1 a2 a3 a4 L K hm hs hal hal9 hfr (fun T hT9 X9 => Or.inl (hrun T hT9 X9)) k (fun E9 n9 h9 q => absurd q (hno _ _ _))
theorem oz_hcg {h' : Nat → o_C} (eh : ∀ k, k < n → h k = h' k) (k : o_Vz Z l M d al post pc ls st n h' mc ms) : o_Vz Z l M d al post pc ls st n h mc ms := by
  intro p e R s m args below meth c ad H locs cells slots MC MS la Q X E S P a1 a2 a3 a4 L K
  have e9 : o_rW ad Z.2.2.1 n h = o_rW ad Z.2.2.1 n h' := List.map_congr_left fun k hk => by rw [eh k (List.mem_range.mp hk)]
  exact k p e R s m args below meth c ad H locs cells slots MC MS la Q X E S (by unfold o_Rp; rw [← e9]; exact P) a1 a2 a3 a4 L K
theorem oz_hcq {l : Launch} {M : o_M} {d : Nat} {al : Nat → Prop} {post : o_P} {pc : Nat} {ls : List (Nat × Value)} {st : List Value} {n : Nat} {h h' : Nat → o_C} {mc ms b t N : Nat} {f f' : Nat → Option Nat} (e1 : h b = .inl (t, N, .inr (.inr (.inr (.inr f))))) (e2 : h' b = .inl (t, N, .inr (.inr (.inr (.inr f'))))) (ef : ∀ j, j < N → f j = f' j) (eh : ∀ k, k < n → k ≠ b → h k = h' k) (k : o_Vz Z l M d al post pc ls st n h' mc ms) : o_Vz Z l M d al post pc ls st n h mc ms := by
  intro p e R s m args below meth c ad H locs cells slots MC MS la Q X E S P
  have hg : ∀ (i : Nat) (q : Nat × va_E), (o_rW ad Z.2.2.1 n h')[i]? = some q → ∃ q0, (o_rW ad Z.2.2.1 n h)[i]? = some q0 ∧ q0.1 = q.1 ∧ (va_at Z.2.1 o_cl q0 H → va_at Z.2.1 o_cl q H) := by
    intro i q hq
    unfold o_rW at hq ⊢
    rw [List.getElem?_map] at hq ⊢
    by_cases hi : i < n
    · rw [List.getElem?_range hi] at hq ⊢
      cases hq
      refine ⟨_, rfl, rfl, ?_⟩
      by_cases hb : i = b
      · subst hb
        intro hv
        have hv : va_at Z.2.1 o_cl (ad i, o_rC ad Z.2.2.1 (h i)) H := hv
        show va_at Z.2.1 o_cl (ad i, o_rC ad Z.2.2.1 (h' i)) H
        rw [e1] at hv
        rw [e2]
        show H[ad i]? = some (arrV (Z.2.2.1 t) N (fun j => va_rf ((f' j).map ad)))
        have hv : H[ad i]? = some (arrV (Z.2.2.1 t) N (fun j => va_rf ((f j).map ad))) := hv
        rw [hv]
        unfold arrV
        congr 2
        congr 1
        funext j
        show va_rf (Option.map ad (f j.val)) = va_rf (Option.map ad (f' j.val))
        rw [ef j.val j.isLt]
      · show va_at Z.2.1 o_cl (ad i, o_rC ad Z.2.2.1 (h i)) H → va_at Z.2.1 o_cl (ad i, o_rC ad Z.2.2.1 (h' i)) H
        rw [eh i hi hb]; exact id
    · rw [List.getElem?_eq_none (by rw [List.length_range]; omega)] at hq
      cases hq
  exact k p e R s m args below meth c ad H locs cells slots MC MS la Q X E S ⟨fun i q hq => by
    obtain ⟨q0, h1, -, h3⟩ := hg i q hq
    exact h3 (P.1 i q0 h1), fun i j p q hi hj e => by
    obtain ⟨p0, a1, a2, -⟩ := hg i p hi
    obtain ⟨q0, b1, b2, -⟩ := hg j q hj
    exact P.2.1 i j p0 q0 a1 b1 (by rw [a2, b2]; exact e), fun i q hq => by
    obtain ⟨q0, h1, h2, -⟩ := hg i q hq
    have := P.2.2 i q0 h1
    rw [h2] at this
    exact this⟩
theorem oz_newaB {at9 : ArrayType} {ty : FieldType} {t N : Nat} {x : vp_A} (hnr : ∀ k, k < n → o_nrC n (h k)) (hn : n < 1000000) (hal : al n) (hd : decode M.2.1 pc = .ok (.newarray at9, 2)) (hty : newarray.typeOf at9 = ty) (ht : o_tyL[t]? = some ty) (hw : Cond.arrayClass ty ∈ o_gW) (hx : ∀ cA : ClassId, vp_cell cA x = arrV cA N (fun _ => defaultValue ty)) (hxr : ∀ ad, o_rA ad x = x) (hN : N ≤ 65536) (hfr : o_refs n ls st) (hmc : 1 ≤ mc) (hms : N ≤ ms)
    (k : o_Vz Z l M d al post (pc + 2) ls (.ref n :: st) (n + 1) (o_up h n (.inl (t, x))) (mc - 1) (ms - N)) : o_Vz Z l M d al post pc ls (.int (o_I (N : Int)) :: st) n h mc ms := by
  intro p e R s m args below meth c ad H locs cells slots MC MS la Q X E S P a1 a2 a3 a4 L K
  have rN : o_R (N : Int) := ⟨by omega, by omega⟩
  have hb9 : N * componentBytes ty ≤ 536870912 := by
    subst hty
    cases at9 <;> (simp [newarray.typeOf, componentBytes]; omega)
  refine va_newa (D := Z.2.1) (cl := o_cl) (tys := o_tys Z) X.1 X.2.1 (atype := at9) (by rw [hty]; exact X.2.2.2.1 _ hw) hty E.2.1 P.1 P.2 S (fun q hq => Nat.le_trans E.1 hq) hx (n := o_I (N : Int)) (N' := N) (fun q => by have := (o_lt rN o_R0).mp q; omega) (by rw [o_clamp rN]; omega) hb9 (by omega) (by omega) hd (fun q cA H1 hK2 hP hD hS => ?_)
  have hcA : cA = Z.2.2.1 t := by
    have r1 := (hK2.2 (o_tys Z).length (cA, ty) (by rw [List.getElem?_append_right (Nat.le_refl _), Nat.sub_self]; rfl)).2
    have r2 := (E.2.1.2 t _ (o_tys_get ht)).2
    subst hty
    cases at9 <;> exact Option.some.inj (r1.symm.trans r2)
  subst hcA
  obtain ⟨ad', had⟩ : ∃ ad' : Nat → Nat, ad' = fun k => if k = n then q else ad k := ⟨_, rfl⟩
  have e1 : ∀ k, k ≠ n → ad' k = ad k := fun k hk => by rw [had]; exact if_neg hk
  have e2 : ad' n = q := by rw [had]; exact if_pos rfl
  have hag : o_ag al ad ad' := fun k hk => e1 k (fun z => hk (by rw [z]; exact hal))
  have w1 : ls.map (fun q => (q.1, o_rV ad' q.2)) = ls.map (fun q => (q.1, o_rV ad q.2)) := List.map_congr_left fun q hq => by rw [o_rV_n e1 (hfr.1 q hq)]
  have w2 : st.map (o_rV ad') = st.map (o_rV ad) := List.map_congr_left fun v hv => o_rV_n e1 (hfr.2 v hv)
  have w3 := o_rW_app (cy := Z.2.2.1) (c := .inl (t, x)) hnr e1 e2 (e0 := .inl (Z.2.2.1 t, x)) (by
    show Sum.inl (Z.2.2.1 t, x) = Sum.inl (Z.2.2.1 t, o_rA ad' x)
    rw [hxr])
  rw [w3] at hP hD
  have k9 := k p e R s m args below meth c ad' H1 locs (cells + 1) (slots + N) MC MS la Q X (E.ad (fun k hk => e1 k (by omega))) hS ⟨hP, hD⟩ (by omega) (by omega) a3 a4 (by rw [w1]; exact L)
    ⟨fun v n1 h1 ad1 H1 locs1 c1 s1 pc1 la1 q1 q2 => K.1 v n1 h1 ad1 H1 locs1 c1 s1 pc1 la1 q1 (o_ag.tr hag q2 (fun _ z => z)),
      fun E1 q9 ce n1 h1 ad1 H1 locs1 c1 s1 pc1 la1 rest1 q1 q2 => K.2 E1 q9 ce n1 h1 ad1 H1 locs1 c1 s1 pc1 la1 rest1 q1 (o_ag.tr hag q2 (fun _ z => z))⟩
  rw [List.map_cons, w2, show o_rV ad' (.ref n) = .ref q from congrArg Value.ref e2] at k9
  exact k9
theorem oz_newa {at9 : ArrayType} {ty : FieldType} {t N : Nat} {x : vp_A} (hok : o_ok n h) (hn : n < 1000000) (hal : al n) (hd : decode M.2.1 pc = .ok (.newarray at9, 2)) (hty : newarray.typeOf at9 = ty) (ht : o_tyL[t]? = some ty) (hw : Cond.arrayClass ty ∈ o_gW) (hx : ∀ cA : ClassId, vp_cell cA x = arrV cA N (fun _ => defaultValue ty)) (hxr : ∀ ad, o_rA ad x = x) (hxk : o_okC (n + 1) (.inl (t, x))) (hN : N ≤ 65536) (hfr : o_refs n ls st) (hmc : 1 ≤ mc) (hms : N ≤ ms)
    (k : o_ok (n + 1) (o_up h n (.inl (t, x))) → o_Vz Z l M d al post (pc + 2) ls (.ref n :: st) (n + 1) (o_up h n (.inl (t, x))) (mc - 1) (ms - N)) : o_Vz Z l M d al post pc ls (.int (o_I (N : Int)) :: st) n h mc ms :=
  oz_newaB (hok.nr hn) hn hal hd hty ht hw hx hxr hN hfr hmc hms (k (hok.app hxk))
theorem oz_new {ci N i : Nat} {C : String} {T : u_T} {fs : List Value} {ty : Nat → FieldType} (hok : o_ok n h) (hn : n < 1000000) (hal : al n) (hd : decode M.2.1 pc = .ok (.new i, 3)) (hk : Cond.classLink M.1 i C ∈ o_gW) (hin : Cond.instantiable C N ∈ o_gW) (hini : Cond.initialized C ∈ o_gW) (hc : o_cl[ci]? = some (C, T, N)) (hty : ∀ k, k < N → parseFieldDescriptor (T k).2.2.1 = some (ty k)) (hfs : ∀ j, j < N → defaultValue (ty j) = vp_V fs j) (hnr : ∀ v ∈ fs, ∀ r : Nat, v ≠ .ref r) (hfr : o_refs n ls st) (hmc : 1 ≤ mc) (hms : N ≤ ms)
    (k : o_ok (n + 1) (o_up h n (.inr (ci, fs))) → o_Vz Z l M d al post (pc + 3) ls (.ref n :: st) (n + 1) (o_up h n (.inr (ci, fs))) (mc - 1) (ms - N)) : o_Vz Z l M d al post pc ls st n h mc ms := by
  intro p e R s m args below meth c ad H locs cells slots MC MS la Q X E S P a1 a2 a3 a4 L K
  obtain ⟨hcw, -, -⟩ := o_clAt hc
  have hcc : o_okC (n + 1) (.inr (ci, fs)) := fun v hv r hr => absurd hr (hnr v hv r)
  refine va_new (D := Z.2.1) (cl := o_cl) (tys := o_tys Z) X.1 X.2.1 X.2.2.2.1 hcw ty hty X.2.2.1 (X.2.2.2.1 _ hk) (X.2.2.2.1 _ hin) (X.2.2.2.1 _ hini) E.2.1 P.1 P.2 S (fun q hq => Nat.le_trans E.1 hq) hc hfs (by omega) (show slots + N ≤ R.slots by omega) hd (fun q H1 hP hD hS => ?_)
  obtain ⟨ad', had⟩ : ∃ ad' : Nat → Nat, ad' = fun k => if k = n then q else ad k := ⟨_, rfl⟩
  have e1 : ∀ k, k ≠ n → ad' k = ad k := fun k hk => by rw [had]; exact if_neg hk
  have e2 : ad' n = q := by rw [had]; exact if_pos rfl
  have hag : o_ag al ad ad' := fun k hk => e1 k (fun z => hk (by rw [z]; exact hal))
  have w1 : ls.map (fun q => (q.1, o_rV ad' q.2)) = ls.map (fun q => (q.1, o_rV ad q.2)) := List.map_congr_left fun q hq => by rw [o_rV_n e1 (hfr.1 q hq)]
  have w2 : st.map (o_rV ad') = st.map (o_rV ad) := List.map_congr_left fun v hv => o_rV_n e1 (hfr.2 v hv)
  have w3 := o_rW_app (cy := Z.2.2.1) (c := .inr (ci, fs)) (hok.nr hn) e1 e2 (e0 := .inr (ci, fs)) (by
    show Sum.inr (ci, fs) = Sum.inr (ci, fs.map (o_rV ad'))
    congr 2
    exact (List.map_id' fs).symm.trans (List.map_congr_left fun v hv => by
      cases v with
      | ref r => exact absurd rfl (hnr _ hv r)
      | _ => rfl))
  rw [w3] at hP hD
  have k9 := k (hok.app hcc) p e R s m args below meth c ad' H1 locs (cells + 1) (slots + N) MC MS la Q X (E.ad (fun k hk => e1 k (by omega))) hS ⟨hP, hD⟩ (by omega) (by omega) a3 a4 (by rw [w1]; exact L)
    ⟨fun v n1 h1 ad1 H1 locs1 c1 s1 pc1 la1 q1 q2 => K.1 v n1 h1 ad1 H1 locs1 c1 s1 pc1 la1 q1 (o_ag.tr hag q2 (fun _ z => z)),
      fun E1 q9 ce n1 h1 ad1 H1 locs1 c1 s1 pc1 la1 rest1 q1 q2 => K.2 E1 q9 ce n1 h1 ad1 H1 locs1 c1 s1 pc1 la1 rest1 q1 (o_ag.tr hag q2 (fun _ z => z))⟩
  rw [List.map_cons, w2, show o_rV ad' (.ref n) = .ref q from congrArg Value.ref e2] at k9
  exact k9
theorem oz_callI {y : MethodName} {yb : ByteArray} {yL dy mcy msy index b : Nat} {aly : Nat → Prop} {posty : o_P} (As : List Value) {rest : List Value}
    (hC : o_Ct l y (.code y yb yL none) dy aly (.ref b :: As) n h mcy msy posty) (hd : decode M.2.1 pc = .ok (.invokespecial index, 3)) (hw : Cond.methodLink M.1 index y ∈ o_gW) (hyw : o_yi y (.code y yb yL none)) (hnm : y.name = "<init>") (hyd : o_yd y As.length = true) (hyL : yL ≤ 21)
    (hdy : dy < d) (hm : mcy ≤ mc) (hs : msy ≤ ms) (hst : st = As.reverse ++ .ref b :: rest) (hcat : (rest.map fun v => v.category).sum ≤ 8)
    (hal : ∀ k, aly k → al k) (hal9 : ∀ k, aly k → k < 1000000) (hfr : (∀ k, ¬ aly k) ∨ ((∀ q ∈ ls, ∀ k, q.2 = .ref k → ¬ aly k) ∧ ∀ v ∈ rest, ∀ k, v = .ref k → ¬ aly k))
    (k : ∀ v n' h', posty (.inl v) n' h' → o_Vz Z l M d al post (pc + 3) ls (v.toList ++ rest) n' h' (mc - mcy) (ms - msy))
    (kx : ∀ E n' h', posty (.inr E) n' h' → o_T l M d al post pc ls E n' h' (mc - mcy) (ms - msy)) : o_Vz Z l M d al post pc ls st n h mc ms := by
  intro p e R s m args below meth c ad H locs cells slots MC MS la Q X E S P a1 a2 a3 a4 L K
  obtain ⟨hx, hbb, hown, hts, hml, hr, hlk, htab, hst9, hfr9, hlo9⟩ := id X
  have hf1 : (o_rm dy mcy msy).frames + 1 ≤ R.frames := by show dy + 8 + 1 ≤ _; omega
  have hf2 : 8 + (yL + 11) + (o_rm dy mcy msy).locals ≤ R.locals := by show 8 + (yL + 11) + (40 * dy + 160) ≤ _; omega
  have cb : CallB R s args M.1 index y yb yL none (.code y yb yL none :: o_gW) (o_rm dy mcy msy) mcy msy As.length := callB_of (ws' := o_gW) As.length hts (o_gCode hyw.2.2) rfl rfl rfl (hts _ hyw.2.1) (hts _ hw) (o_yd_of hyd) ⟨hf1, hf2⟩
  have hrun := vx_runI (l := l) (e := e) (below := below) (meth := meth) (locs := locs) (cells := cells) (slots := slots) (H := H) (b := ad b) (As := As.map (o_rV ad)) (rest := rest.map (o_rV ad)) (Ts := o_gW) (nL := M.2.2.1) ⟨hx, hbb, hml, hown, hts⟩ (hC Z ad) ⟨cb, hnm, hts _ hyw.1⟩
    (o_preS (As := .ref b :: As) E S P) (g := F0 m pc la (st.map (o_rV ad))) rfl (by rw [List.length_map]) L.1 (by rw [hst]; simp [o_rV]) (by have := lv_room (m := m) (pc := pc) (ls := la) (rest := st.map (o_rV ad)) (st := rest.map (o_rV ad)) (by rw [o_cats]; exact hcat); exact this) hd ⟨by omega, by omega⟩
  exact oz_back (dy := dy) X E S a1 a2 a3 a4 L K hm hs hal hal9 hfr hrun k kx
theorem oz_cVm {y : MethodName} {yb : ByteArray} {yL dy index b ci N : Nat} {yr : Option FieldType} {T : u_T} {fs : List Value} (As : List Value) {rest : List Value} {v : Option Value} {Q : (Nat → Nat → Int) → Prop}
    (hC : o_Ct l y (.code y yb yL yr) dy o_no (.ref b :: As) n h 0 0 (o_mt v Q)) (hd : decode M.2.1 pc = .ok (.invokevirtual index, 3)) (hw : Cond.methodLink M.1 index y ∈ o_gW) (hyw : o_yw y (.code y yb yL yr)) (hyd : o_yd y As.length = true) (hyL : yL ≤ 21)
    (hdy : dy < d) (hb : b < n) (hh : h b = .inr (ci, fs)) (hc : o_cl[ci]? = some (y.cls, T, N)) (hst : st = As.reverse ++ .ref b :: rest) (hcat : (rest.map fun v => v.category).sum ≤ 8)
    (k : ∀ g', Q g' → o_Vz Z l M d al post (pc + 3) ls (v.toList ++ rest) o_N (o_mem g') mc ms) : o_Vz Z l M d al post pc ls st n h mc ms :=
  oz_callV As hC hd hw hyw hyd hyL hdy (Nat.zero_le _) (Nat.zero_le _) hb hh hc hst hcat (fun _ z => z.elim) (fun _ z => z.elim) (Or.inl fun _ z => z) (fun v' n' h9 q => by obtain ⟨q1, rfl, g', rfl, q2⟩ := q; cases q1; exact k g' q2) (fun E n' h9 q => by cases q.1)
/-- the script's length and numbers -/
def h_s (Z : o_Z) (j : Nat) : Int := (Z.2.2.2.2 j).toInt
theorem h_sR (Z : o_Z) (j : Nat) : o_R (h_s Z j) := ⟨by have := Int32.le_toInt (Z.2.2.2.2 j); unfold h_s; omega, by have := Int32.toInt_lt (Z.2.2.2.2 j); unfold h_s; omega⟩
theorem oz_slen (hd : decode M.2.1 pc = .ok (.arraylength, 1)) (k : o_Vz Z l M d al post (pc + 1) ls (.int (o_I (Z.2.2.2.1 : Int)) :: st) n h mc ms) : o_Vz Z l M d al post pc ls (.ref 5000000 :: st) n h mc ms := by
  intro p e R s m args below meth c ad H locs cells slots MC MS la Q X E S P a1 a2 a3 a4 L K
  have E9 := E.2.2.2.2.2
  have k9 := k p e R s m args below meth c ad H locs cells slots MC MS la Q X E S P a1 a2 a3 a4 L K
  rw [List.map_cons, show o_rV ad (.int (o_I (Z.2.2.2.1 : Int))) = .int (Int32.ofNat Z.2.2.2.1) from congrArg Value.int (o_nI Z.2.2.2.1).symm] at k9
  exact va_slen X.1 X.2.1 E9.1 (Nat.lt_of_lt_of_le E9.2.1 E.1) (Nat.not_le.mpr E9.2.1) S hd k9
theorem oz_sld {i : Int} {j : Nat} (hi : i = (j : Int)) (hj : j < Z.2.2.2.1) (hL : Z.2.2.2.1 ≤ 2048) (hd : decode M.2.1 pc = .ok (.iaload, 1)) (k : o_Vz Z l M d al post (pc + 1) ls (.int (o_I (h_s Z j)) :: st) n h mc ms) : o_Vz Z l M d al post pc ls (.int (o_I i) :: .ref 5000000 :: st) n h mc ms := by
  intro p e R s m args below meth c ad H locs cells slots MC MS la Q X E S P a1 a2 a3 a4 L K
  have E9 := E.2.2.2.2.2
  have rI : o_R i := ⟨by omega, by omega⟩
  have k9 := k p e R s m args below meth c ad H locs cells slots MC MS la Q X E S P a1 a2 a3 a4 L K
  rw [List.map_cons, show o_rV ad (.int (o_I (h_s Z j))) = .int (Z.2.2.2.2 (o_I i).toNatClampNeg) from congrArg Value.int (by rw [o_clamp rI, hi]; exact Int32.ofInt_toInt _)] at k9
  exact va_sld X.1 X.2.1 E9.1 (Nat.lt_of_lt_of_le E9.2.1 E.1) (Nat.not_le.mpr E9.2.1) S (o_in rI (by omega) (by omega)) hd k9
/-- one value twice -/
theorem oz_icmpS {x : Int32} {off : Int} {tgt : Nat} (hd : decode M.2.1 pc = .ok (.if_icmp .eq off, 3)) (ht : (pc : Int) + off = (tgt : Int)) (k : o_Vz Z l M d al post tgt ls st n h mc ms) : o_Vz Z l M d al post pc ls (.int x :: .int x :: st) n h mc ms := by
  intro p e R s m args below meth c ad H locs cells slots MC MS la Q X E S P a1 a2 a3 a4 L K
  exact lv_icmp_eq X.1 X.2.1 hd ht (fun _ => k p e R s m args below meth c ad H locs cells slots MC MS la Q X E S P a1 a2 a3 a4 L K) (fun q => absurd rfl q)
end OZ
set_option maxRecDepth 100000 in
set_option maxHeartbeats 4000000 in
theorem oz_start {Z : o_Z} {l : Launch} {M : o_M} {d : Nat} {al : Nat → Prop} {post : o_P} {pc : Nat} {ls : List (Nat × Value)} {st : List Value} {mc ms : Nat} (k : o_Vz Z l M d al post pc ls st o_N (o_mem x_g0) mc ms) : o_Vz Z l M d al post pc ls st 203 (o_hL x_L0) mc ms := by
  refine oz_hcq (b := 44) (t := 7) (N := 8) (f := x_rng 45 14 8) (f' := fun j => some (45 + 14 * j)) (h' := o_up (o_hL x_L0) 44 (.inl (7, 8, .inr (.inr (.inr (.inr (fun j => some (45 + 14 * j)))))))) rfl rfl (fun j hj => if_pos hj) (fun k _ hk => (if_neg hk).symm) ?_
  refine oz_hcq (b := 165) (t := 6) (N := 12) (f := x_rng 166 2 12) (f' := fun j => some (166 + 2 * j)) (h' := x_h1) rfl rfl (fun j hj => if_pos hj) (fun k _ hk => (if_neg hk).symm) ?_
  exact oz_hcg (fun k hk => x_h1_eq k hk) k
