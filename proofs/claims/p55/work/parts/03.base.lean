/-! numbers as integers: o_I z is the int z, wrapped round -/
def o_I (z : Int) : Int32 := Int32.ofInt z
def o_R (z : Int) : Prop := -2147483648 ≤ z ∧ z ≤ 2147483647
theorem o_add (a b : Int) : o_I a + o_I b = o_I (a + b) := (Int32.ofInt_add a b).symm
theorem o_sub (a b : Int) : o_I a - o_I b = o_I (a - b) := (Int32.ofInt_sub a b).symm
theorem o_mul (a b : Int) : o_I a * o_I b = o_I (a * b) := (Int32.ofInt_mul a b).symm
theorem o_toInt {z : Int} (h : o_R z) : (o_I z).toInt = z := Int32.toInt_ofInt_of_le (by have := h.1; omega) (by have := h.2; omega)
theorem o_lt {a b : Int} (ha : o_R a) (hb : o_R b) : o_I a < o_I b ↔ a < b := by rw [Int32.lt_iff_toInt_lt, o_toInt ha, o_toInt hb]
theorem o_le {a b : Int} (ha : o_R a) (hb : o_R b) : o_I a ≤ o_I b ↔ a ≤ b := by rw [Int32.le_iff_toInt_le, o_toInt ha, o_toInt hb]
theorem o_eq {a b : Int} (ha : o_R a) (hb : o_R b) : o_I a = o_I b ↔ a = b := by rw [← Int32.toInt_inj, o_toInt ha, o_toInt hb]
theorem o_nI (n : Nat) : nI n = o_I n := (Int32.ofInt_eq_ofNat (n := n)).symm
theorem o_of (x : Int32) : ∃ z : Int, o_R z ∧ x = o_I z := ⟨x.toInt, ⟨by have := Int32.le_toInt x; omega, by have := Int32.toInt_lt x; omega⟩, (Int32.ofInt_toInt x).symm⟩
theorem o_clamp {z : Int} (h : o_R z) : (o_I z).toNatClampNeg = z.toNat := by
  show (o_I z).toInt.toNat = z.toNat
  rw [o_toInt h]
theorem o_in {z : Int} {n : Nat} (hr : o_R z) (h0 : 0 ≤ z) (h1 : z < n) : vp_in (o_I z) n := vp_in_iff.mpr (by rw [o_toInt hr]; exact ⟨h0, h1⟩)
theorem o_div {a b : Int} (ha : o_R a) (hb : o_R b) (ha0 : 0 ≤ a) (h0 : 0 < b) : o_I a / o_I b = o_I (a / b) := by
  rw [← Int32.toInt_inj, Int32.toInt_div_of_ne_right _ _ (by
    intro h
    have h1 := congrArg Int32.toInt h
    rw [o_toInt hb] at h1
    have h2 : (-1 : Int32).toInt = -1 := by decide
    omega), o_toInt ha, o_toInt hb, Int.tdiv_eq_ediv_of_nonneg ha0]
  refine (o_toInt ⟨?_, ?_⟩).symm
  · have := Int.ediv_nonneg ha0 (Int.le_of_lt h0)
    omega
  · have h1 := Int.ediv_le_self b ha0
    have := ha.2
    omega
/-- abstract heaps: cells by their numbers; a reference is a number; from 1000000 on the numbers are those of constants -/
abbrev o_C : Type := (Nat × vp_A) ⊕ (Nat × List Value)
def o_rV (ad : Nat → Nat) : Value → Value
  | .ref k => .ref (ad k)
  | v => v
def o_rA (ad : Nat → Nat) (a : vp_A) : vp_A := (a.1, match a.2 with
  | .inr (.inr (.inr (.inr f))) => .inr (.inr (.inr (.inr (fun j => (f j).map ad))))
  | x => x)
def o_rC (ad : Nat → Nat) (cy : Nat → ClassId) : o_C → va_E
  | .inl a => .inl (cy a.1, o_rA ad a.2)
  | .inr o => .inr (o.1, o.2.map (o_rV ad))
def o_rW (ad : Nat → Nat) (cy : Nat → ClassId) (n : Nat) (h : Nat → o_C) : va_W := (List.range n).map (fun k => (ad k, o_rC ad cy (h k)))
def o_up (h : Nat → o_C) (k : Nat) (c : o_C) : Nat → o_C := fun j => if j = k then c else h j
theorem o_rW_get {ad : Nat → Nat} {cy : Nat → ClassId} {n k : Nat} {h : Nat → o_C} {c : o_C} (hk : k < n) (hc : h k = c) : (o_rW ad cy n h)[k]? = some (ad k, o_rC ad cy c) := by
  simp [o_rW, hk, hc]
theorem o_rW_set {ad : Nat → Nat} {cy : Nat → ClassId} {n k : Nat} {h : Nat → o_C} {c : o_C} {e : va_E} (he : e = o_rC ad cy c) : (o_rW ad cy n h).set k (ad k, e) = o_rW ad cy n (o_up h k c) := by
  subst he
  apply List.ext_getElem?
  intro j
  rw [List.getElem?_set]
  by_cases hj : k = j
  · subst hj
    by_cases hk : k < n
    · simp [o_rW, o_up, hk]
    · simp [o_rW, hk]
  · simp only [if_neg hj]
    by_cases hk : j < n
    · simp [o_rW, o_up, hk, Ne.symm hj]
    · simp [o_rW, hk]
theorem o_cat (ad : Nat → Nat) (v : Value) : (o_rV ad v).category = v.category := by cases v <;> rfl
theorem o_cats (ad : Nat → Nat) (l : List Value) : ((l.map (o_rV ad)).map fun v => v.category).sum = (l.map fun v => v.category).sum := by
  rw [List.map_map]
  congr 1
  exact List.map_congr_left fun v _ => o_cat ad v
/-- the classes that the worlds hold -/
def o_T0 : u_T := fun _ => ("", "", "", false)
def o_cl : List vw_C := [(RX11, TX11, 12), (RX10, TX10, 7), (RX9, TX9, 4), (RX7, TX7, 6), (RX8, TX8, 3), (RX5, TX5, 3), (RX4, TX4, 1), (RX3, TX3, 4), (RX2, TX2, 5), (RX1, TX1, 2), ("java/lang/String", TJ0, 4), (RJ4, TJ4, 4),
  ("java/lang/IndexOutOfBoundsException", o_T0, 0), ("java/lang/IllegalArgumentException", o_T0, 0), ("java/lang/IllegalStateException", o_T0, 0), ("java/util/NoSuchElementException", o_T0, 0), ("java/lang/UnsupportedOperationException", o_T0, 0), ("java/lang/ArithmeticException", o_T0, 0)]
def o_tyL : List FieldType := [.int, .boolean, .char, .byte, .long, .int, .object RX1, .object RX10]
/-- what a run fixes: the heap's size at the law's entry, the classes' numbers, the array classes -/
abbrev o_Z : Type := Nat × va_G × (Nat → ClassId) × Nat × (Nat → Int32) × (Nat → Prop)
def o_A (Z : o_Z) : Nat → Prop := fun q => Z.1 ≤ q ∧ ¬ Z.2.2.2.2.2 q
def o_tys (Z : o_Z) : List (ClassId × FieldType) := o_tyL.zipIdx.map (fun q => (Z.2.2.1 q.2, q.1))
theorem o_tys_get {Z : o_Z} {t : Nat} {ty : FieldType} (h : o_tyL[t]? = some ty) : (o_tys Z)[t]? = some (Z.2.2.1 t, ty) := by
  simp [o_tys, h]
/-- the good words of the tables, which every method is given -/
def o_more : List Cond := [.selects "java/lang/StringBuilder" yJ5_ensureCapacityInternal_d00df yJ5_ensureCapacityInternal_d00df, .selects "java/lang/StringBuilder" yJ5_newCapacity_0f7a4 yJ5_newCapacity_0f7a4, .selects "java/lang/StringBuilder" yJ5_putStringAt_47b60 yJ5_putStringAt_47b60, .selects "java/lang/StringBuilder" yJ5_inflateIfNeededFor_a7421 yJ5_inflateIfNeededFor_a7421]
def o_gW : List Cond := (o_more ++ lw_tbl).filter goodWord
theorem o_gIn {ws : List Cond} (h : ∀ w ∈ ws, w ∈ o_gW) : GoodIn o_gW ws := fun w hw => ⟨h w hw, good_of_word (List.mem_filter.mp (h w hw)).2⟩
theorem o_gCode {w : Cond} (hw : w ∈ o_gW) : GoodIn o_gW (w :: o_gW) := o_gIn (fun v hv => (List.mem_cons.mp hv).elim (fun e => e ▸ hw) id)
def o_nM : List (String × Nat × MethodName × String) := [("LampLeaseOffice", 11, yX10_init, "LampLeaseOffice"), ("LampLeaseOffice$State", 11, yX9_init, "LampLeaseOffice"), ("LampLeaseOffice$State", 20, yX7_init, "LampLeaseOffice"), ("LampLeaseOffice$State", 27, yX8_init, "LampLeaseOffice"), ("LampLeaseOffice$History", 17, yX10_init, "LampLeaseOffice"), ("LampLeaseOffice", 31, yX4_init, "LampLeaseOffice"), ("LampLeaseOffice", 38, yX3_init, "LampLeaseOffice"), ("LampLeaseOffice$CommandText", 21, yX1_init, "LampLeaseOffice")]
def o_nF : Cond := .fieldLinkNest RX2 75 RX11 "KEYWORDS" "[LLampLeaseOffice$Keyword;" RX11
/-- the String constants: class, entry, text, number -/
def o_str : List (String × Nat × String × Nat) := [("LampLeaseOffice", 385, "there is no such ship or lamp", 6), ("LampLeaseOffice", 387, "an argument is out of range", 7), ("LampLeaseOffice", 389, "the state does not allow this", 8), ("LampLeaseOffice", 393, "the lamp is not leased", 9), ("LampLeaseOffice", 396, "the ship has too few coins", 10), ("LampLeaseOffice", 401, "there is no such ship", 11), ("LampLeaseOffice", 404, "there is no such lamp", 12), ("LampLeaseOffice", 408, "there is nothing to answer", 13), ("LampLeaseOffice", 406, "there is no such position", 14), ("LampLeaseOffice", 248, "there are no ships", 15), ("LampLeaseOffice", 256, "there are no lamps", 16), ("LampLeaseOffice", 279, "the input buffer is full", 17), ("LampLeaseOffice", 296, "the text is malformed", 18), ("LampLeaseOffice", 315, "a command failed", 19), ("LampLeaseOffice", 366, "there is no such character", 20), ("LampLeaseOffice", 373, "no call can be undone", 21), (RL, 293, "", 60), (RL, 302, " ", 61), (RL, 307, "s", 62), (RL, 309, "e", 63), (RL, 319, "r", 64), (RL, 351, "oil ", 65), (RL, 353, ";wait;drop ", 66), (RL, 359, "wait ", 67), (RL, 361, ";lease ", 68), (RL, 363, " 3;wait;renew ", 69), (RL, 365, " 2", 70)]
/-- the texts of String constants, by their numbers: their bytes -/
def o_sv : List (Nat × List Int32) := [(37, [115, 104, 105, 112]), (38, []), (39, [108, 97, 109, 112]), (40, [49]), (41, [111, 105, 108]), (42, [51]), (43, [108, 101, 97, 115, 101]), (44, [49, 49, 50]), (45, [114, 101, 110, 101, 119]), (46, [49, 50]), (47, [100, 114, 111, 112]), (48, [119, 97, 105, 116]), (49, [50]), (60, []), (61, [32]), (62, [115]), (63, [101]), (64, [114]), (65, [111, 105, 108, 32]), (66, [59, 119, 97, 105, 116, 59, 100, 114, 111, 112, 32]), (67, [119, 97, 105, 116, 32]), (68, [59, 108, 101, 97, 115, 101, 32]), (69, [32, 51, 59, 119, 97, 105, 116, 59, 114, 101, 110, 101, 119, 32]), (70, [32, 50])]
/-- the enum's constants: name, number of the word, number of the widths, whether the number may be left out -/
def o_kw : List (String × Nat × Nat × Int32) := [("SHIP", 37, 38, 0), ("LAMP", 39, 40, 0), ("OIL", 41, 42, 0), ("LEASE", 43, 44, 0), ("RENEW", 45, 46, 0), ("DROP", 47, 40, 0), ("WAIT", 48, 49, 1)]
def o_exs : List String := ["java/lang/IndexOutOfBoundsException", "java/lang/IllegalArgumentException", "java/lang/IllegalStateException", "java/util/NoSuchElementException", "java/lang/UnsupportedOperationException", "java/lang/ArithmeticException"]
def o_dcl : List MethodName := [⟨"java/lang/RuntimeException", "<init>", "(Ljava/lang/String;)V"⟩, ⟨"java/lang/Exception", "<init>", "(Ljava/lang/String;)V"⟩, ⟨"java/lang/Throwable", "<init>", "(Ljava/lang/String;)V"⟩]
/-- exceptions that a handler of another doesn't take -/
def o_ncs : List (String × String) := [("java/lang/IllegalStateException", "java/lang/IllegalArgumentException"), ("java/lang/IllegalArgumentException", "java/lang/IndexOutOfBoundsException"), ("java/lang/IllegalStateException", "java/lang/IndexOutOfBoundsException"), ("java/lang/UnsupportedOperationException", "java/lang/IndexOutOfBoundsException"), ("java/lang/UnsupportedOperationException", "java/lang/IllegalArgumentException"), ("java/lang/UnsupportedOperationException", "java/lang/IllegalStateException"), ("java/util/NoSuchElementException", "java/lang/IndexOutOfBoundsException"), ("java/util/NoSuchElementException", "java/lang/IllegalArgumentException"), ("java/lang/IllegalStateException", "java/util/NoSuchElementException")]
/-- what stands in the heap from the start and stays: of the tables, the statics, the constants -/
def o_E2a (A : Nat → Prop) (U : State) (H : Heap) : Prop :=
  vx_Zq Bundle.tN "UNASSIGNED_STACK" Bundle.steD A U H ∧ vx_Zq Bundle.tN "SUPPRESSED_SENTINEL" Bundle.listD A U H ∧ va_Z "java/lang/String" "COMPACT_STRINGS" "Z" (.int 1) A U H
def o_E2b (A : Nat → Prop) (ad : Nat → Nat) (U : State) (H : Heap) : Prop :=
  ∀ q ∈ o_sv, va_O "java/lang/String" (ad (2000000 + q.1)) A U H ∧ va_OF "java/lang/String" "coder" "B" (.int 0) (ad (2000000 + q.1)) A U H ∧ va_OF "java/lang/String" "value" "[B" (.ref (ad (3000000 + q.1))) (ad (2000000 + q.1)) A U H ∧ va_T .byte (ad (3000000 + q.1)) q.2.length (fun j => .int (q.2.getD j 0)) A U H
def o_E2c (A : Nat → Prop) (ad : Nat → Nat) (U : State) (H : Heap) : Prop :=
  ∀ (i : Nat) (q : String × Nat × Nat × Int32), o_kw[i]? = some q → va_Z RX6 q.1 "LLampLeaseOffice$Keyword;" (.ref (ad (1000000 + i))) A U H ∧ va_O RX6 (ad (1000000 + i)) A U H ∧ va_OF "java/lang/Enum" "ordinal" "I" (.int (nI i)) (ad (1000000 + i)) A U H ∧ va_OF RX6 "word" "Ljava/lang/String;" (.ref (ad (2000000 + q.2.1))) (ad (1000000 + i)) A U H ∧ va_OF RX6 "widths" "Ljava/lang/String;" (.ref (ad (2000000 + q.2.2.1))) (ad (1000000 + i)) A U H ∧ va_OF RX6 "numberIsOptional" "Z" (.int q.2.2.2) (ad (1000000 + i)) A U H
def o_E2d (A : Nat → Prop) (ad : Nat → Nat) (U : State) (H : Heap) : Prop :=
  va_Z RX11 "KEYWORDS" "[LLampLeaseOffice$Keyword;" (.ref (ad 4000000)) A U H ∧ va_T (.object RX6) (ad 4000000) 7 (fun j => .ref (ad (1000000 + j))) A U H ∧ va_Z RX0 "$SwitchMap$LampLeaseOffice$Keyword" "[I" (.ref (ad 4000001)) A U H ∧ va_T .int (ad 4000001) 7 (fun j => .int (nI (if j = 6 then 0 else j + 1))) A U H ∧ va_Z "java/lang/Integer" "DigitOnes" "[B" (.ref (ad 4000002)) A U H ∧ va_T .byte (ad 4000002) 100 (fun j => .int (nI (48 + j % 10))) A U H ∧ va_Z "java/lang/Integer" "DigitTens" "[B" (.ref (ad 4000003)) A U H ∧ va_T .byte (ad 4000003) 100 (fun j => .int (nI (48 + j / 10))) A U H ∧ (va_Z "jdk/internal/util/Preconditions" "SIOOBE_FORMATTER" "Ljava/util/function/BiFunction;" .null A U H ∨ va_Z "jdk/internal/util/Preconditions" "SIOOBE_FORMATTER" "Ljava/util/function/BiFunction;" (.ref (ad 4000004)) A U H)
def o_E2 (A : Nat → Prop) (ad : Nat → Nat) (U : State) (H : Heap) : Prop := o_E2a A U H ∧ o_E2b A ad U H ∧ o_E2c A ad U H ∧ o_E2d A ad U H
def o_aoL : List String := [RX10, RX1]
def o_Ex (Z : o_Z) (ad : Nat → Nat) (U : State) : Prop :=
  (Z.1 ≤ U.heap.size ∧ ∀ q : Nat, U.heap.size ≤ q → o_A Z q) ∧ va_K Z.2.1 o_cl (o_tys Z) U ∧ ((∀ q ∈ o_nM, va_Nw (.methodLinkNest q.1 q.2.1 q.2.2.1 q.2.2.2) U) ∧ va_Nw o_nF U ∧ (∀ X ∈ o_exs, va_Nw (.castable X X) U) ∧ (∀ q ∈ o_ncs, va_Nc q.1 q.2 U) ∧ ∀ y ∈ o_dcl, va_Nw (.declares y) U) ∧ (∀ q ∈ o_str, vk_R q.1 q.2.1 q.2.2.1 (ad (2000000 + q.2.2.2)) U) ∧ o_E2 (o_A Z) ad U U.heap ∧ (va_X (ad 5000000) Z.2.2.2.1 Z.2.2.2.2.1 U U.heap ∧ ad 5000000 < Z.1 ∧ (∀ C ∈ o_aoL, va_AO C U) ∧ va_Nw (.castable "[B" "java/lang/Cloneable") U)
theorem o_E2.mv {A : Nat → Prop} {ad : Nat → Nat} {u U : State} {H H1 : Heap} (hvm : u.vm.Alike U.vm) (hq : ∀ a : Nat, a < H.size → ¬ A a → H1[a]? = H[a]?) (h : o_E2 A ad u H) : o_E2 A ad U H1 := by
  obtain ⟨⟨a1, a2, a3⟩, b, c, d1, d2, d3, d4, d5, d6, d7, d8, d9⟩ := h
  refine ⟨⟨vx_Zq.moved hvm (a1.kept hq), vx_Zq.moved hvm (a2.kept hq), va_Z.moved hvm (a3.kept hq)⟩, fun q h9 => ?_, fun i q h9 => ?_, va_Z.moved hvm (d1.kept hq), va_T.moved hvm (d2.kept hq), va_Z.moved hvm (d3.kept hq), va_T.moved hvm (d4.kept hq), va_Z.moved hvm (d5.kept hq), va_T.moved hvm (d6.kept hq), va_Z.moved hvm (d7.kept hq), va_T.moved hvm (d8.kept hq), ?_⟩
  · obtain ⟨e1, e2, e3, e4⟩ := b q h9
    exact ⟨va_O.moved hvm (e1.kept hq), va_OF.moved hvm (e2.kept hq), va_OF.moved hvm (e3.kept hq), va_T.moved hvm (e4.kept hq)⟩
  · obtain ⟨e1, e2, e3, e4, e5, e6⟩ := c i q h9
    exact ⟨va_Z.moved hvm (e1.kept hq), va_O.moved hvm (e2.kept hq), va_OF.moved hvm (e3.kept hq), va_OF.moved hvm (e4.kept hq), va_OF.moved hvm (e5.kept hq), va_OF.moved hvm (e6.kept hq)⟩
  · rcases d9 with e | e
    · exact Or.inl (va_Z.moved hvm (e.kept hq))
    · exact Or.inr (va_Z.moved hvm (e.kept hq))
theorem o_E2.ad {A : Nat → Prop} {ad ad' : Nat → Nat} {U : State} {H : Heap} (h : o_E2 A ad U H) (e : ∀ k : Nat, 1000000 ≤ k → ad' k = ad k) : o_E2 A ad' U H := by
  obtain ⟨a, b, c, d1, d2, d3, d4, d5, d6, d7, d8, d9⟩ := h
  refine ⟨a, fun q h9 => ?_, fun i q h9 => ?_, ?_, ?_, ?_, ?_, ?_, ?_, ?_, ?_, ?_⟩
  · rw [e (2000000 + q.1) (by omega), e (3000000 + q.1) (by omega)]
    exact b q h9
  · rw [e (1000000 + i) (by omega), e (2000000 + q.2.1) (by omega), e (2000000 + q.2.2.1) (by omega)]
    exact c i q h9
  · rw [e 4000000 (by omega)]; exact d1
  · rw [e 4000000 (by omega), show (fun j => Value.ref (ad' (1000000 + j))) = fun j => Value.ref (ad (1000000 + j)) from funext fun j => by rw [e _ (by omega)]]
    exact d2
  · rw [e 4000001 (by omega)]; exact d3
  · rw [e 4000001 (by omega)]; exact d4
  · rw [e 4000002 (by omega)]; exact d5
  · rw [e 4000002 (by omega)]; exact d6
  · rw [e 4000003 (by omega)]; exact d7
  · rw [e 4000003 (by omega)]; exact d8
  · rw [e 4000004 (by omega)]; exact d9
theorem o_Ex.mv {Z : o_Z} {ad : Nat → Nat} {s U : State} (h : o_Ex Z ad s) (hz : s.heap.size ≤ U.heap.size) (hq : ∀ a : Nat, a < s.heap.size → ¬ o_A Z a → U.heap[a]? = s.heap[a]?) (hW : s.WarmedH U.vm) : o_Ex Z ad U := by
  obtain ⟨h1, h2, ⟨h3, h4, h34, h35, h36⟩, h5, h6, h7, h8, h9⟩ := h
  refine ⟨⟨Nat.le_trans h1.1 hz, fun q hq => h1.2 q (Nat.le_trans hz hq)⟩, va_K.moved hW.alike h2, ⟨fun q hq' => (h3 q hq').warmM hW, va_Nw.warmF hW h4, fun q hq' => (h34 q hq').warmC hW, fun q hq' => (h35 q hq').moved hW.alike, fun q hq' => (h36 q hq').warmD hW⟩, fun q hq' => (h5 q hq').warm hW, h6.mv hW.alike hq, ?_, h8, fun C hC => va_AO.moved hW.alike (h9.1 C hC), h9.2.warmC hW⟩
  exact va_X.moved hW.alike (h7.kept (hq _ (Nat.lt_of_lt_of_le h8 h1.1) (fun z => Nat.not_le.mpr h8 z.1)))
theorem o_Ex.vm {Z : o_Z} {ad : Nat → Nat} {s U : State} (h : o_Ex Z ad s) (hh : U.heap = s.heap) (hv : U.vm = s.vm) : o_Ex Z ad U :=
  h.mv (by rw [hh]; exact Nat.le_refl _) (fun a _ _ => by rw [hh]) (by rw [hv]; exact State.WarmedH.refl s)
theorem o_Ex.ad {Z : o_Z} {ad ad' : Nat → Nat} {s : State} (h : o_Ex Z ad s) (e : ∀ k : Nat, 1000000 ≤ k → ad' k = ad k) : o_Ex Z ad' s := by
  obtain ⟨h1, h2, h3, h5, h6, h7⟩ := h
  exact ⟨h1, h2, h3, fun q hq => by rw [e _ (by omega)]; exact h5 q hq, h6.ad e, by rw [e _ (by omega)]; exact h7⟩
/-- the abstract heap h of n cells is H's, at the addresses ad -/
def o_Rp (Z : o_Z) (ad : Nat → Nat) (n : Nat) (h : Nat → o_C) (H : Heap) : Prop := va_P Z.2.1 o_cl (o_rW ad Z.2.2.1 n h) H ∧ va_D (o_A Z) (o_rW ad Z.2.2.1 n h)
