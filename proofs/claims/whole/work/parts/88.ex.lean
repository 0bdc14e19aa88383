/-! what stands in the heap at the start -/
def e_L : List Cond := flatC (Jvm.Cond.and given_1 narrow_1)
theorem e_at {args : Array Value} {s : State} (h : (Jvm.Cond.and given_1 narrow_1).before args s = true) {i : Nat} {w : Cond} (hi : e_L[i]? = some w) : w.before args s = true := flat_of_before _ h _ (List.mem_of_getElem? hi)
theorem e_tb {args : Array Value} {s : State} (h : ∀ w ∈ lw_tbl, w.before args s = true) {i : Nat} {w : Cond} (hi : tables_1[i]? = some w) : w.before args s = true := h _ (List.mem_append_right _ (List.mem_of_getElem? hi))
theorem e_ws {C : String} {T : u_T} {N : Nat} (is : List Nat) (h : u_ws C T N = is.filterMap (fun i => tables_1[i]?)) : ∀ w ∈ u_ws C T N, w ∈ lw_tbl := by
  intro w hw
  rw [h] at hw
  obtain ⟨i, -, hi⟩ := List.mem_filterMap.mp hw
  exact List.mem_append_right _ (List.mem_of_getElem? hi)
theorem e_selP {C : String} {z y : MethodName} {s : State} {args : Array Value} (hy : y.cls ≠ "java/lang/invoke/MethodHandle" ∧ y.cls ≠ "java/lang/invoke/VarHandle") (he : z.cls = y.cls) (hz : (Cond.selects C z z).before args s = true) (hpriv : (Cond.privateMethod y).before args s = true) (hinst : (Cond.instanceMethod y).before args s = true) : (Cond.selects C y y).before args s = true := by
  obtain ⟨c, r, m, hc, -, hm, -, k, hk, hni⟩ := Cond.selects_spec hz
  obtain ⟨mk, methM, hnamed, hmethM, -, -⟩ := Cond.instanceMethod_spec hinst
  have hfound : s.methodFound? y.cls y.name y.desc = some mk := State.methodFound?_of_named hnamed hy
  have hcls : mk.cls = m.cls := Option.some.inj ((findClass_of_methodNamed hnamed).symm.trans ((congrArg s.vm.findClass he).symm.trans (findClass_of_methodNamed hm)))
  have hsel : selectMethod {} s.vm c mk = .method mk := selectMethod_private hmethM (Cond.privateMethod_at hpriv mk methM hnamed hmethM)
  simp only [Cond.before, Cond.holds, Cond.value, hc, hfound, hnamed, hsel, hcls, hk]
  simp; exact hni
theorem e_gW {args : Array Value} {s : State} (h : ∀ w ∈ lw_tbl, w.before args s = true) : ∀ w ∈ o_gW, w.before args s = true := by
  intro w hw
  rcases List.mem_append.mp (List.mem_filter.mp hw).1 with q | q
  · unfold o_more at q
    rcases List.mem_cons.mp q with rfl | q
    · exact e_selP (z := yJ5_isLatin1_aae02) (by decide) rfl (e_tb h (i := 554) (by decide +kernel)) (e_tb h (i := 519) (by decide +kernel)) (e_tb h (i := 520) (by decide +kernel))
    · rcases List.mem_singleton.mp q with rfl
      exact e_selP (z := yJ5_isLatin1_aae02) (by decide) rfl (e_tb h (i := 554) (by decide +kernel)) (e_tb h (i := 523) (by decide +kernel)) (e_tb h (i := 524) (by decide +kernel))
  · exact h w q
theorem e_arr {ty : FieldType} {args : Array Value} {s : State} (h : (Cond.arrayClass ty).before args s = true) (hp : ∀ c, s.vm.findClass ("[" ++ ty.toString) = some c → va_RA s c ty) : ∃ c, ArrOfT s c ty ∧ va_RA s c ty := by
  obtain ⟨c, k, comp, h1, h2, h3⟩ := Cond.arrayClass_spec (args := args) (first := s) (o := none) (s := s) (idx := []) h
  exact ⟨c, fun n z => ⟨(fun k h => by cases h), k, h2, comp, h3⟩, hp c h1⟩
theorem e_arrO {C : String} {args : Array Value} {s : State} (h : (Cond.arrayOver (.object C)).before args s = true) : ∃ c, ArrOfT s c (.object C) ∧ va_RA s c (.object C) := by
  obtain ⟨comp, c, k, h1, -, h3, h4, h5⟩ := Cond.arrayOver_spec (args := args) (first := s) (o := none) (s := s) (idx := []) h
  exact ⟨c, fun n z => ⟨(fun k h => by cases h), k, h3, comp, h4⟩, k, comp, h3, h4, h1, h5⟩
/-- addresses by their numbers -/
def e_ad (kw sA sB tA : List Nat) (b : Nat) : Nat → Nat := fun k => if k < 1000000 then 0 else if k < 2000000 then kw.getD (k - 1000000) 0 else if k < 3000000 then sA.getD (k - 2000000) 0 else if k < 4000000 then sB.getD (k - 3000000) 0 else if k < 5000000 then tA.getD (k - 4000000) 0 else b
section EAD
variable {kw sA sB tA : List Nat} {b : Nat}
theorem e_ad1 {n : Nat} (h : n < 1000000) : e_ad kw sA sB tA b (1000000 + n) = kw.getD n 0 := by
  unfold e_ad
  rw [if_neg (by omega), if_pos (by omega), show 1000000 + n - 1000000 = n by omega]
theorem e_ad2 {n : Nat} (h : n < 1000000) : e_ad kw sA sB tA b (2000000 + n) = sA.getD n 0 := by
  unfold e_ad
  rw [if_neg (by omega), if_neg (by omega), if_pos (by omega), show 2000000 + n - 2000000 = n by omega]
theorem e_ad3 {n : Nat} (h : n < 1000000) : e_ad kw sA sB tA b (3000000 + n) = sB.getD n 0 := by
  unfold e_ad
  rw [if_neg (by omega), if_neg (by omega), if_neg (by omega), if_pos (by omega), show 3000000 + n - 3000000 = n by omega]
theorem e_ad4 {n : Nat} (h : n < 1000000) : e_ad kw sA sB tA b (4000000 + n) = tA.getD n 0 := by
  unfold e_ad
  rw [if_neg (by omega), if_neg (by omega), if_neg (by omega), if_neg (by omega), if_pos (by omega), show 4000000 + n - 4000000 = n by omega]
theorem e_ad5 : e_ad kw sA sB tA b 5000000 = b := by
  unfold e_ad
  rw [if_neg (by omega), if_neg (by omega), if_neg (by omega), if_neg (by omega), if_neg (by omega)]
end EAD
/-- a String constant's object -/
theorem e_strA {args : Array Value} {s : State} {own : String} {idx : Nat} (h : (Cond.exactly (.string own idx) "java/lang/String").before args s = true) : ∃ a, (Term.string own idx).eval args s none [] s = some (.ref a) := by
  obtain ⟨a, c, cell, k, h1, -⟩ := Cond.exactly_spec (args := args) (first := s) (o := none) (s := s) (idx := []) h
  exact ⟨a, h1⟩
def e_vl (own : String) (idx : Nat) : Term := .field (.string own idx) "java/lang/String" "value" "[B"
def e_A (s : State) : Nat → Prop := fun q => s.heap.size ≤ q
theorem e_hA (s : State) : ∀ a : Nat, a < s.heap.size → ¬ e_A s a := fun a h q => Nat.not_le.mpr h q
/-- .. with its bytes -/
theorem e_strB {args : Array Value} {s : State} (h : (Jvm.Cond.and given_1 narrow_1).before args s = true) (own : String) (idx : Nat) (L : List Int32) (i : Nat) (hx : e_L[i]? = some (.exactly (.string own idx) "java/lang/String")) (hc : e_L[i + 1]? = some (.eq (.field (.string own idx) "java/lang/String" "coder" "B") (.int 0))) (ha : e_L[i + 2]? = some (.arrayOf (e_vl own idx) .byte)) (hn : e_L[i + 3]? = some (.eq (.length (e_vl own idx)) (.int (Int32.ofNat L.length)))) (he : ∀ j, j < L.length → e_L[i + 4 + j]? = some (.eq (.elem (e_vl own idx) (.int (Int32.ofNat j))) (.int (L.getD j 0)))) (hl : L.length < 2 ^ 31) :
    ∃ a b, (Term.string own idx).eval args s none [] s = some (.ref a) ∧ va_O "java/lang/String" a (e_A s) s s.heap ∧ va_OF "java/lang/String" "coder" "B" (.int 0) a (e_A s) s s.heap ∧ va_OF "java/lang/String" "value" "[B" (.ref b) a (e_A s) s s.heap ∧ va_T .byte b L.length (fun j => .int (L.getD j 0)) (e_A s) s s.heap := by
  obtain ⟨a, h1⟩ := e_strA (e_at h hx)
  obtain ⟨b, h2, h3⟩ := va_Tof (f := fun j => .int (L.getD j 0)) hl (e_at h ha) (va_eqt (e_at h hn)) (fun j hj => va_eqt (e_at h (he j hj))) (e_hA s)
  exact ⟨a, b, h1, va_Oof (e_at h hx) h1 (e_hA s), vk_OFof h1 (va_eqt (e_at h hc)) (e_hA s), vk_OFof h1 h2 (e_hA s), h3⟩
/-- a constant of the enum -/
theorem e_eqr {args : Array Value} {s : State} {t u : Term} {v : Value} (h : (Cond.eq t u).before args s = true) (hu : u.eval args s none [] s = some v) : t.eval args s none [] s = some v := by
  obtain ⟨y, h1, h2⟩ := Cond.eq_one (first := s) (args := args) (o := none) (s := s) (idx := []) h
  rw [h1, h2.symm.trans hu]
def e_kt (nm : String) : Term := .static RX6 nm "LLampLeaseOffice$Keyword;"
theorem e_kw {args : Array Value} {s : State} (h : (Jvm.Cond.and given_1 narrow_1).before args s = true) (ht : ∀ w ∈ lw_tbl, w.before args s = true) (nm : String) (i n : Nat) (o : Int32) (w1 w2 a1 a2 : Nat) (hl : tables_1[n]? = some (.laysStatic RX6 nm "LLampLeaseOffice$Keyword;")) (hx : e_L[i]? = some (.exactly (e_kt nm) RX6)) (h1 : e_L[i + 1]? = some (.eq (.field (e_kt nm) "java/lang/Enum" "ordinal" "I") (.int o))) (h2 : e_L[i + 2]? = some (.eq (.field (e_kt nm) RX6 "word" "Ljava/lang/String;") (.string RX6 w1))) (h3 : e_L[i + 3]? = some (.eq (.field (e_kt nm) RX6 "widths" "Ljava/lang/String;") (.string RX6 w2))) (z : Int32) (h4 : e_L[i + 4]? = some (.eq (.field (e_kt nm) RX6 "numberIsOptional" "Z") (.int z))) (s1 : (Term.string RX6 w1).eval args s none [] s = some (.ref a1)) (s2 : (Term.string RX6 w2).eval args s none [] s = some (.ref a2)) :
    ∃ k, (e_kt nm).eval args s none [] s = some (.ref k) ∧ va_Z RX6 nm "LLampLeaseOffice$Keyword;" (.ref k) (e_A s) s s.heap ∧ va_O RX6 k (e_A s) s s.heap ∧ va_OF "java/lang/Enum" "ordinal" "I" (.int o) k (e_A s) s s.heap ∧ va_OF RX6 "word" "Ljava/lang/String;" (.ref a1) k (e_A s) s s.heap ∧ va_OF RX6 "widths" "Ljava/lang/String;" (.ref a2) k (e_A s) s s.heap ∧ va_OF RX6 "numberIsOptional" "Z" (.int z) k (e_A s) s s.heap := by
  obtain ⟨k, c, cell, kc, q, -⟩ := Cond.exactly_spec (args := args) (first := s) (o := none) (s := s) (idx := []) (e_at h hx)
  exact ⟨k, q, va_Zref (e_tb ht hl) (e_tb ht (i := 12) (by decide +kernel)) q (e_hA s), va_Oof (e_at h hx) q (e_hA s), vk_OFof q (va_eqt (e_at h h1)) (e_hA s), vk_OFof q (e_eqr (e_at h h2) s1) (e_hA s), vk_OFof q (e_eqr (e_at h h3) s2) (e_hA s), vk_OFof q (va_eqt (e_at h h4)) (e_hA s)⟩
set_option maxRecDepth 100000 in
set_option maxHeartbeats 4000000 in
theorem e_K {args : Array Value} {s : State} (h : ∀ w ∈ lw_tbl, w.before args s = true) : ∃ (D : va_G) (cy : Nat → ClassId), va_K D o_cl (o_tyL.zipIdx.map (fun q => (cy q.2, q.1))) s := by
  obtain ⟨c0, i0, k0⟩ := u_known (C := RX11) (T := TX11) (N := 12) (n := 12) h (e_ws [317, 319, 321, 323, 325, 327, 329, 331, 333, 335, 337, 339] (by decide +kernel)) (e_tb h (i := 39) (by decide +kernel))
  obtain ⟨c1, i1, k1⟩ := u_known (C := RX10) (T := TX10) (N := 7) (n := 7) h (e_ws [163, 165, 167, 169, 171, 173, 175] (by decide +kernel)) (e_tb h (i := 47) (by decide +kernel))
  obtain ⟨c2, i2, k2⟩ := u_known (C := RX9) (T := TX9) (N := 4) (n := 4) h (e_ws [71, 73, 75, 77] (by decide +kernel)) (e_tb h (i := 53) (by decide +kernel))
  obtain ⟨c3, i3, k3⟩ := u_known (C := RX7) (T := TX7) (N := 6) (n := 6) h (e_ws [107, 109, 111, 113, 115, 117] (by decide +kernel)) (e_tb h (i := 82) (by decide +kernel))
  obtain ⟨c4, i4, k4⟩ := u_known (C := RX8) (T := TX8) (N := 3) (n := 3) h (e_ws [136, 138, 140] (by decide +kernel)) (e_tb h (i := 122) (by decide +kernel))
  obtain ⟨c5, i5, k5⟩ := u_known (C := RX5) (T := TX5) (N := 3) (n := 3) h (e_ws [191, 193, 195] (by decide +kernel)) (e_tb h (i := 179) (by decide +kernel))
  obtain ⟨c6, i6, k6⟩ := u_known (C := RX4) (T := TX4) (N := 1) (n := 1) h (e_ws [205] (by decide +kernel)) (e_tb h (i := 199) (by decide +kernel))
  obtain ⟨c7, i7, k7⟩ := u_known (C := RX3) (T := TX3) (N := 4) (n := 4) h (e_ws [218, 220, 222, 224] (by decide +kernel)) (e_tb h (i := 209) (by decide +kernel))
  obtain ⟨c8, i8, k8⟩ := u_known (C := RX2) (T := TX2) (N := 5) (n := 5) h (e_ws [261, 263, 265, 267, 269] (by decide +kernel)) (e_tb h (i := 228) (by decide +kernel))
  obtain ⟨c9, i9, k9⟩ := u_known (C := RX1) (T := TX1) (N := 2) (n := 2) h (e_ws [246, 248] (by decide +kernel)) (e_tb h (i := 235) (by decide +kernel))
  obtain ⟨c10, i10, k10⟩ := u_known (C := RX12) (T := TX12) (N := 19) (n := 19) h (e_ws [1561, 1563, 1565, 1567, 1569, 1571, 1573, 1575, 1577, 1579, 1581, 1583, 1585, 1587, 1589, 1591, 1593, 1595, 1597] (by decide +kernel)) (e_tb h (i := 1537) (by decide +kernel))
  obtain ⟨c11, i11, k11⟩ := u_known (C := RJ4) (T := TJ4) (N := 4) (n := 4) h (e_ws [295, 297, 299, 301] (by decide +kernel)) (e_tb h (i := 273) (by decide +kernel))
  obtain ⟨c12, i12, k12⟩ := u_known (C := "java/lang/IndexOutOfBoundsException") (T := o_T0) (N := 0) (n := 6) h (e_ws [] (by decide +kernel)) (e_tb h (i := 909) (by decide +kernel))
  obtain ⟨c13, i13, k13⟩ := u_known (C := "java/lang/IllegalArgumentException") (T := o_T0) (N := 0) (n := 6) h (e_ws [] (by decide +kernel)) (e_tb h (i := 687) (by decide +kernel))
  obtain ⟨c14, i14, k14⟩ := u_known (C := "java/lang/IllegalStateException") (T := o_T0) (N := 0) (n := 6) h (e_ws [] (by decide +kernel)) (e_tb h (i := 925) (by decide +kernel))
  obtain ⟨c15, i15, k15⟩ := u_known (C := "java/util/NoSuchElementException") (T := o_T0) (N := 0) (n := 6) h (e_ws [] (by decide +kernel)) (e_tb h (i := 941) (by decide +kernel))
  obtain ⟨c16, i16, k16⟩ := u_known (C := "java/lang/UnsupportedOperationException") (T := o_T0) (N := 0) (n := 6) h (e_ws [] (by decide +kernel)) (e_tb h (i := 957) (by decide +kernel))
  obtain ⟨c17, i17, k17⟩ := u_known (C := "java/lang/ArithmeticException") (T := o_T0) (N := 0) (n := 6) h (e_ws [] (by decide +kernel)) (e_tb h (i := 1341) (by decide +kernel))
  obtain ⟨a0, b0⟩ := e_arr (ty := .int) (e_tb h (i := 80) (by decide +kernel)) (fun c q => q)
  obtain ⟨a1, b1⟩ := e_arr (ty := .boolean) (e_tb h (i := 120) (by decide +kernel)) (fun c q => q)
  obtain ⟨a2, b2⟩ := e_arr (ty := .char) (e_tb h (i := 251) (by decide +kernel)) (fun c q => q)
  obtain ⟨a3, b3⟩ := e_arr (ty := .byte) (e_tb h (i := 304) (by decide +kernel)) (fun c q => q)
  obtain ⟨a4, b4⟩ := e_arr (ty := .long) (e_tb h (i := 1988) (by decide +kernel)) (fun c q => q)
  obtain ⟨a5, b5⟩ := e_arr (ty := .double) (e_tb h (i := 1989) (by decide +kernel)) (fun c q => q)
  obtain ⟨a6, b6⟩ := e_arrO (C := RX1) (e_tb h (i := 234) (by decide +kernel))
  obtain ⟨a7, b7⟩ := e_arrO (C := RX10) (e_tb h (i := 185) (by decide +kernel))
  refine ⟨(fun k => ([c0, c1, c2, c3, c4, c5, c6, c7, c8, c9, c10, c11, c12, c13, c14, c15, c16, c17] : List ClassId).getD k 0, fun k => ([i0, i1, i2, i3, i4, i5, i6, i7, i8, i9, i10, i11, i12, i13, i14, i15, i16, i17] : List (Nat → Nat)).getD k (fun _ => 0)), fun k => ([a0, a1, a2, a3, a4, a5, a6, a7] : List ClassId).getD k 0, fun c q hq => ?_, fun k q hq => ?_⟩
  · match c, hq with
    | 0, hq => cases hq; exact k0
    | 1, hq => cases hq; exact k1
    | 2, hq => cases hq; exact k2
    | 3, hq => cases hq; exact k3
    | 4, hq => cases hq; exact k4
    | 5, hq => cases hq; exact k5
    | 6, hq => cases hq; exact k6
    | 7, hq => cases hq; exact k7
    | 8, hq => cases hq; exact k8
    | 9, hq => cases hq; exact k9
    | 10, hq => cases hq; exact k10
    | 11, hq => cases hq; exact k11
    | 12, hq => cases hq; exact k12
    | 13, hq => cases hq; exact k13
    | 14, hq => cases hq; exact k14
    | 15, hq => cases hq; exact k15
    | 16, hq => cases hq; exact k16
    | 17, hq => cases hq; exact k17
    | c + 18, hq => exact absurd hq (by intro z; cases z)
  · match k, hq with
    | 0, hq => cases hq; exact b0
    | 1, hq => cases hq; exact b1
    | 2, hq => cases hq; exact b2
    | 3, hq => cases hq; exact b3
    | 4, hq => cases hq; exact b4
    | 5, hq => cases hq; exact b5
    | 6, hq => cases hq; exact b6
    | 7, hq => cases hq; exact b7
    | k + 8, hq => exact absurd hq (by intro z; cases z)
set_option maxRecDepth 100000 in
set_option maxHeartbeats 4000000 in
theorem e_Ex {args : Array Value} {s : State} {b L : Nat} {xs : Nat → Int32} (h : (Jvm.Cond.and given_1 narrow_1).before args s = true) (ht : ∀ w ∈ lw_tbl, w.before args s = true) (hX : va_X b L xs s s.heap) (hb : b < s.heap.size) : ∃ (Z : o_Z) (ad : Nat → Nat), Z.1 = s.heap.size ∧ Z.2.2.2.1 = L ∧ ad 5000000 = b ∧ o_Ex Z ad s := by
  obtain ⟨D, cy, hK⟩ := e_K ht
  obtain ⟨a6, s6⟩ := e_strA (e_at h (i := 566) (w := .exactly (.string "LampLeaseOffice" 385) "java/lang/String") (by decide +kernel))
  obtain ⟨a7, s7⟩ := e_strA (e_at h (i := 599) (w := .exactly (.string "LampLeaseOffice" 387) "java/lang/String") (by decide +kernel))
  obtain ⟨a8, s8⟩ := e_strA (e_at h (i := 630) (w := .exactly (.string "LampLeaseOffice" 389) "java/lang/String") (by decide +kernel))
  obtain ⟨a9, s9⟩ := e_strA (e_at h (i := 663) (w := .exactly (.string "LampLeaseOffice" 393) "java/lang/String") (by decide +kernel))
  obtain ⟨a10, s10⟩ := e_strA (e_at h (i := 689) (w := .exactly (.string "LampLeaseOffice" 396) "java/lang/String") (by decide +kernel))
  obtain ⟨a11, s11⟩ := e_strA (e_at h (i := 719) (w := .exactly (.string "LampLeaseOffice" 401) "java/lang/String") (by decide +kernel))
  obtain ⟨a12, s12⟩ := e_strA (e_at h (i := 744) (w := .exactly (.string "LampLeaseOffice" 404) "java/lang/String") (by decide +kernel))
  obtain ⟨a13, s13⟩ := e_strA (e_at h (i := 769) (w := .exactly (.string "LampLeaseOffice" 408) "java/lang/String") (by decide +kernel))
  obtain ⟨a14, s14⟩ := e_strA (e_at h (i := 799) (w := .exactly (.string "LampLeaseOffice" 406) "java/lang/String") (by decide +kernel))
  obtain ⟨a15, s15⟩ := e_strA (e_at h (i := 828) (w := .exactly (.string "LampLeaseOffice" 248) "java/lang/String") (by decide +kernel))
  obtain ⟨a16, s16⟩ := e_strA (e_at h (i := 850) (w := .exactly (.string "LampLeaseOffice" 256) "java/lang/String") (by decide +kernel))
  obtain ⟨a17, s17⟩ := e_strA (e_at h (i := 872) (w := .exactly (.string "LampLeaseOffice" 279) "java/lang/String") (by decide +kernel))
  obtain ⟨a18, s18⟩ := e_strA (e_at h (i := 900) (w := .exactly (.string "LampLeaseOffice" 296) "java/lang/String") (by decide +kernel))
  obtain ⟨a19, s19⟩ := e_strA (e_at h (i := 925) (w := .exactly (.string "LampLeaseOffice" 315) "java/lang/String") (by decide +kernel))
  obtain ⟨a20, s20⟩ := e_strA (e_at h (i := 945) (w := .exactly (.string "LampLeaseOffice" 366) "java/lang/String") (by decide +kernel))
  obtain ⟨a21, s21⟩ := e_strA (e_at h (i := 975) (w := .exactly (.string "LampLeaseOffice" 373) "java/lang/String") (by decide +kernel))
  obtain ⟨a22, s22⟩ := e_strA (e_at h (i := 1000) (w := .exactly (.string "LampLeaseOffice" 382) "java/lang/String") (by decide +kernel))
  obtain ⟨a23, b23, s23, o23, p23, q23, r23⟩ := e_strB h "LampLeaseOfficeModel" 216 [108, 97, 109, 112] 1022 (by decide +kernel) (by decide +kernel) (by decide +kernel) (by decide +kernel) (by decide +kernel) (by decide)
  obtain ⟨a24, b24, s24, o24, p24, q24, r24⟩ := e_strB h "LampLeaseOfficeModel" 218 [115, 104, 105, 112] 1030 (by decide +kernel) (by decide +kernel) (by decide +kernel) (by decide +kernel) (by decide +kernel) (by decide)
  obtain ⟨a25, b25, s25, o25, p25, q25, r25⟩ := e_strB h "LampLeaseOfficeModel" 203 [32] 1038 (by decide +kernel) (by decide +kernel) (by decide +kernel) (by decide +kernel) (by decide +kernel) (by decide)
  obtain ⟨a26, b26, s26, o26, p26, q26, r26⟩ := e_strB h "LampLeaseOfficeModel" 223 [111, 105, 108] 1043 (by decide +kernel) (by decide +kernel) (by decide +kernel) (by decide +kernel) (by decide +kernel) (by decide)
  obtain ⟨a27, b27, s27, o27, p27, q27, r27⟩ := e_strB h "LampLeaseOfficeModel" 225 [108, 101, 97, 115, 101] 1050 (by decide +kernel) (by decide +kernel) (by decide +kernel) (by decide +kernel) (by decide +kernel) (by decide)
  obtain ⟨a28, b28, s28, o28, p28, q28, r28⟩ := e_strB h "LampLeaseOfficeModel" 227 [114, 101, 110, 101, 119] 1059 (by decide +kernel) (by decide +kernel) (by decide +kernel) (by decide +kernel) (by decide +kernel) (by decide)
  obtain ⟨a29, b29, s29, o29, p29, q29, r29⟩ := e_strB h "LampLeaseOfficeModel" 229 [100, 114, 111, 112] 1068 (by decide +kernel) (by decide +kernel) (by decide +kernel) (by decide +kernel) (by decide +kernel) (by decide)
  obtain ⟨a30, b30, s30, o30, p30, q30, r30⟩ := e_strB h "LampLeaseOfficeModel" 231 [119, 97, 105, 116] 1076 (by decide +kernel) (by decide +kernel) (by decide +kernel) (by decide +kernel) (by decide +kernel) (by decide)
  obtain ⟨a31, b31, s31, o31, p31, q31, r31⟩ := e_strB h "LampLeaseOfficeModel" 233 [97, 115] 1084 (by decide +kernel) (by decide +kernel) (by decide +kernel) (by decide +kernel) (by decide +kernel) (by decide)
  obtain ⟨a32, b32, s32, o32, p32, q32, r32⟩ := e_strB h "LampLeaseOfficeModel" 235 [105, 97, 115, 117] 1090 (by decide +kernel) (by decide +kernel) (by decide +kernel) (by decide +kernel) (by decide +kernel) (by decide)
  obtain ⟨a33, b33, s33, o33, p33, q33, r33⟩ := e_strB h "LampLeaseOfficeModel" 237 [105, 97, 110, 115] 1098 (by decide +kernel) (by decide +kernel) (by decide +kernel) (by decide +kernel) (by decide +kernel) (by decide)
  obtain ⟨a34, b34, s34, o34, p34, q34, r34⟩ := e_strB h "LampLeaseOfficeModel" 239 [105, 110] 1106 (by decide +kernel) (by decide +kernel) (by decide +kernel) (by decide +kernel) (by decide +kernel) (by decide)
  obtain ⟨a35, b35, s35, o35, p35, q35, r35⟩ := e_strB h "LampLeaseOfficeModel" 240 [97] 1112 (by decide +kernel) (by decide +kernel) (by decide +kernel) (by decide +kernel) (by decide +kernel) (by decide)
  obtain ⟨a36, b36, s36, o36, p36, q36, r36⟩ := e_strB h "LampLeaseOfficeModel" 242 [115] 1117 (by decide +kernel) (by decide +kernel) (by decide +kernel) (by decide +kernel) (by decide +kernel) (by decide)
  obtain ⟨a37, b37, s37, o37, p37, q37, r37⟩ := e_strB h "LampLeaseOffice$Keyword" 56 [115, 104, 105, 112] 1122 (by decide +kernel) (by decide +kernel) (by decide +kernel) (by decide +kernel) (by decide +kernel) (by decide)
  obtain ⟨a38, b38, s38, o38, p38, q38, r38⟩ := e_strB h "LampLeaseOffice$Keyword" 58 [] 1131 (by decide +kernel) (by decide +kernel) (by decide +kernel) (by decide +kernel) (by decide +kernel) (by decide)
  obtain ⟨a39, b39, s39, o39, p39, q39, r39⟩ := e_strB h "LampLeaseOffice$Keyword" 64 [108, 97, 109, 112] 1135 (by decide +kernel) (by decide +kernel) (by decide +kernel) (by decide +kernel) (by decide +kernel) (by decide)
  obtain ⟨a40, b40, s40, o40, p40, q40, r40⟩ := e_strB h "LampLeaseOffice$Keyword" 66 [49] 1144 (by decide +kernel) (by decide +kernel) (by decide +kernel) (by decide +kernel) (by decide +kernel) (by decide)
  obtain ⟨a41, b41, s41, o41, p41, q41, r41⟩ := e_strB h "LampLeaseOffice$Keyword" 69 [111, 105, 108] 1149 (by decide +kernel) (by decide +kernel) (by decide +kernel) (by decide +kernel) (by decide +kernel) (by decide)
  obtain ⟨a42, b42, s42, o42, p42, q42, r42⟩ := e_strB h "LampLeaseOffice$Keyword" 71 [51] 1157 (by decide +kernel) (by decide +kernel) (by decide +kernel) (by decide +kernel) (by decide +kernel) (by decide)
  obtain ⟨a43, b43, s43, o43, p43, q43, r43⟩ := e_strB h "LampLeaseOffice$Keyword" 74 [108, 101, 97, 115, 101] 1162 (by decide +kernel) (by decide +kernel) (by decide +kernel) (by decide +kernel) (by decide +kernel) (by decide)
  obtain ⟨a44, b44, s44, o44, p44, q44, r44⟩ := e_strB h "LampLeaseOffice$Keyword" 76 [49, 49, 50] 1172 (by decide +kernel) (by decide +kernel) (by decide +kernel) (by decide +kernel) (by decide +kernel) (by decide)
  obtain ⟨a45, b45, s45, o45, p45, q45, r45⟩ := e_strB h "LampLeaseOffice$Keyword" 79 [114, 101, 110, 101, 119] 1179 (by decide +kernel) (by decide +kernel) (by decide +kernel) (by decide +kernel) (by decide +kernel) (by decide)
  obtain ⟨a46, b46, s46, o46, p46, q46, r46⟩ := e_strB h "LampLeaseOffice$Keyword" 81 [49, 50] 1189 (by decide +kernel) (by decide +kernel) (by decide +kernel) (by decide +kernel) (by decide +kernel) (by decide)
  obtain ⟨a47, b47, s47, o47, p47, q47, r47⟩ := e_strB h "LampLeaseOffice$Keyword" 84 [100, 114, 111, 112] 1195 (by decide +kernel) (by decide +kernel) (by decide +kernel) (by decide +kernel) (by decide +kernel) (by decide)
  obtain ⟨a48, b48, s48, o48, p48, q48, r48⟩ := e_strB h "LampLeaseOffice$Keyword" 87 [119, 97, 105, 116] 1204 (by decide +kernel) (by decide +kernel) (by decide +kernel) (by decide +kernel) (by decide +kernel) (by decide)
  obtain ⟨a49, b49, s49, o49, p49, q49, r49⟩ := e_strB h "LampLeaseOffice$Keyword" 89 [50] 1213 (by decide +kernel) (by decide +kernel) (by decide +kernel) (by decide +kernel) (by decide +kernel) (by decide)
  obtain ⟨k0, t0, kz0, ko0, kf0, kg0, kh0, ki0⟩ := e_kw h ht "SHIP" 4 241 (nI 0) 56 58 a37 a38 (by decide +kernel) (by decide +kernel) (by decide +kernel) (by decide +kernel) (by decide +kernel) 0 (by decide +kernel) s37 s38
  obtain ⟨k1, t1, kz1, ko1, kf1, kg1, kh1, ki1⟩ := e_kw h ht "LAMP" 244 2034 (nI 1) 64 66 a39 a40 (by decide +kernel) (by decide +kernel) (by decide +kernel) (by decide +kernel) (by decide +kernel) 0 (by decide +kernel) s39 s40
  obtain ⟨k2, t2, kz2, ko2, kf2, kg2, kh2, ki2⟩ := e_kw h ht "OIL" 250 2035 (nI 2) 69 71 a41 a42 (by decide +kernel) (by decide +kernel) (by decide +kernel) (by decide +kernel) (by decide +kernel) 0 (by decide +kernel) s41 s42
  obtain ⟨k3, t3, kz3, ko3, kf3, kg3, kh3, ki3⟩ := e_kw h ht "LEASE" 257 2036 (nI 3) 74 76 a43 a44 (by decide +kernel) (by decide +kernel) (by decide +kernel) (by decide +kernel) (by decide +kernel) 0 (by decide +kernel) s43 s44
  obtain ⟨k4, t4, kz4, ko4, kf4, kg4, kh4, ki4⟩ := e_kw h ht "RENEW" 265 2037 (nI 4) 79 81 a45 a46 (by decide +kernel) (by decide +kernel) (by decide +kernel) (by decide +kernel) (by decide +kernel) 0 (by decide +kernel) s45 s46
  obtain ⟨k5, t5, kz5, ko5, kf5, kg5, kh5, ki5⟩ := e_kw h ht "DROP" 274 2038 (nI 5) 84 66 a47 a40 (by decide +kernel) (by decide +kernel) (by decide +kernel) (by decide +kernel) (by decide +kernel) 0 (by decide +kernel) s47 s40
  obtain ⟨k6, t6, kz6, ko6, kf6, kg6, kh6, ki6⟩ := e_kw h ht "WAIT" 284 2039 (nI 6) 87 89 a48 a49 (by decide +kernel) (by decide +kernel) (by decide +kernel) (by decide +kernel) (by decide +kernel) 1 (by decide +kernel) s48 s49
  obtain ⟨u0, v0, w0⟩ := va_Tof (tm := .static RX11 "KEYWORDS" "[LLampLeaseOffice$Keyword;") (ty := .object RX6) (N := 7) (f := fun j => .ref (([k0, k1, k2, k3, k4, k5, k6] : List Nat).getD j 0)) (A := e_A s) (by decide) (e_at h (i := 224) (by decide +kernel)) (va_eqt (e_at h (i := 225) (by decide +kernel))) (fun j hj => by
    rcases (by omega : j = 0 ∨ j = 1 ∨ j = 2 ∨ j = 3 ∨ j = 4 ∨ j = 5 ∨ j = 6) with rfl | rfl | rfl | rfl | rfl | rfl | rfl
    · exact e_eqr (e_at h (i := 227) (w := .eq (.elem (.static RX11 "KEYWORDS" "[LLampLeaseOffice$Keyword;") (.int (Int32.ofNat 0))) (e_kt "SHIP")) (by decide +kernel)) t0
    · exact e_eqr (e_at h (i := 228) (w := .eq (.elem (.static RX11 "KEYWORDS" "[LLampLeaseOffice$Keyword;") (.int (Int32.ofNat 1))) (e_kt "LAMP")) (by decide +kernel)) t1
    · exact e_eqr (e_at h (i := 229) (w := .eq (.elem (.static RX11 "KEYWORDS" "[LLampLeaseOffice$Keyword;") (.int (Int32.ofNat 2))) (e_kt "OIL")) (by decide +kernel)) t2
    · exact e_eqr (e_at h (i := 230) (w := .eq (.elem (.static RX11 "KEYWORDS" "[LLampLeaseOffice$Keyword;") (.int (Int32.ofNat 3))) (e_kt "LEASE")) (by decide +kernel)) t3
    · exact e_eqr (e_at h (i := 231) (w := .eq (.elem (.static RX11 "KEYWORDS" "[LLampLeaseOffice$Keyword;") (.int (Int32.ofNat 4))) (e_kt "RENEW")) (by decide +kernel)) t4
    · exact e_eqr (e_at h (i := 232) (w := .eq (.elem (.static RX11 "KEYWORDS" "[LLampLeaseOffice$Keyword;") (.int (Int32.ofNat 5))) (e_kt "DROP")) (by decide +kernel)) t5
    · exact e_eqr (e_at h (i := 233) (w := .eq (.elem (.static RX11 "KEYWORDS" "[LLampLeaseOffice$Keyword;") (.int (Int32.ofNat 6))) (e_kt "WAIT")) (by decide +kernel)) t6) (e_hA s)
  have hsw : ∀ j, j < 7 → e_L[237 + j]? = some (.eq (.elem (.static RX0 "$SwitchMap$LampLeaseOffice$Keyword" "[I") (.int (Int32.ofNat j))) (.int (nI (if j = 6 then 0 else j + 1)))) := (by decide +kernel)
  obtain ⟨u1, v1, w1⟩ := va_Tof (tm := .static RX0 "$SwitchMap$LampLeaseOffice$Keyword" "[I") (ty := .int) (N := 7) (f := fun j => .int (nI (if j = 6 then 0 else j + 1))) (A := e_A s) (by decide) (e_at h (i := 235) (by decide +kernel)) (va_eqt (e_at h (i := 236) (by decide +kernel))) (fun j hj => va_eqt (e_at h (hsw j hj))) (e_hA s)
  have hd2 : ∀ j, j < 100 → e_L[17 + j]? = some (.eq (.elem (.static "java/lang/Integer" "DigitOnes" "[B") (.int (Int32.ofNat j))) (.int (nI (48 + j % 10)))) := (by decide +kernel)
  obtain ⟨u2, v2, w2⟩ := va_Tof (tm := .static "java/lang/Integer" "DigitOnes" "[B") (ty := .byte) (N := 100) (f := fun j => .int (nI (48 + j % 10))) (A := e_A s) (by decide) (e_at h (i := 15) (by decide +kernel)) (va_eqt (e_at h (i := 16) (by decide +kernel))) (fun j hj => va_eqt (e_at h (hd2 j hj))) (e_hA s)
  have hd3 : ∀ j, j < 100 → e_L[120 + j]? = some (.eq (.elem (.static "java/lang/Integer" "DigitTens" "[B") (.int (Int32.ofNat j))) (.int (nI (48 + j / 10)))) := (by decide +kernel)
  obtain ⟨u3, v3, w3⟩ := va_Tof (tm := .static "java/lang/Integer" "DigitTens" "[B") (ty := .byte) (N := 100) (f := fun j => .int (nI (48 + j / 10))) (A := e_A s) (by decide) (e_at h (i := 118) (by decide +kernel)) (va_eqt (e_at h (i := 119) (by decide +kernel))) (fun j hj => va_eqt (e_at h (hd3 j hj))) (e_hA s)
  have hf := va_Zqof (A := e_A s) (e_tb ht (i := 569) (by decide +kernel)) (e_tb ht (i := 31) (by decide +kernel)) (e_at h (i := 10) (w := .isRef (.static "jdk/internal/util/Preconditions" "SIOOBE_FORMATTER" "Ljava/util/function/BiFunction;")) (by decide +kernel)) (e_hA s)
  obtain ⟨u4, hu4⟩ : ∃ u4, va_Z "jdk/internal/util/Preconditions" "SIOOBE_FORMATTER" "Ljava/util/function/BiFunction;" .null (e_A s) s s.heap ∨ va_Z "jdk/internal/util/Preconditions" "SIOOBE_FORMATTER" "Ljava/util/function/BiFunction;" (.ref u4) (e_A s) s s.heap := by
    rcases hf with q | ⟨u, q⟩
    · exact ⟨0, Or.inl q⟩
    · exact ⟨u, Or.inr q⟩
  obtain ⟨ad, had⟩ : ∃ ad, ad = e_ad [k0, k1, k2, k3, k4, k5, k6] [0, 0, 0, 0, 0, 0, a6, a7, a8, a9, a10, a11, a12, a13, a14, a15, a16, a17, a18, a19, a20, a21, a22, a23, a24, a25, a26, a27, a28, a29, a30, a31, a32, a33, a34, a35, a36, a37, a38, a39, a40, a41, a42, a43, a44, a45, a46, a47, a48, a49] [0, 0, 0, 0, 0, 0, 0, 0, 0, 0, 0, 0, 0, 0, 0, 0, 0, 0, 0, 0, 0, 0, 0, b23, b24, b25, b26, b27, b28, b29, b30, b31, b32, b33, b34, b35, b36, b37, b38, b39, b40, b41, b42, b43, b44, b45, b46, b47, b48, b49] [u0, u1, u2, u3, u4] b := ⟨_, rfl⟩
  have h1 : ∀ n, n < 1000000 → ad (1000000 + n) = ([k0, k1, k2, k3, k4, k5, k6] : List Nat).getD n 0 := fun n hn => by rw [had]; exact e_ad1 hn
  have h2 : ∀ n, n < 1000000 → ad (2000000 + n) = ([0, 0, 0, 0, 0, 0, a6, a7, a8, a9, a10, a11, a12, a13, a14, a15, a16, a17, a18, a19, a20, a21, a22, a23, a24, a25, a26, a27, a28, a29, a30, a31, a32, a33, a34, a35, a36, a37, a38, a39, a40, a41, a42, a43, a44, a45, a46, a47, a48, a49] : List Nat).getD n 0 := fun n hn => by rw [had]; exact e_ad2 hn
  have h3 : ∀ n, n < 1000000 → ad (3000000 + n) = ([0, 0, 0, 0, 0, 0, 0, 0, 0, 0, 0, 0, 0, 0, 0, 0, 0, 0, 0, 0, 0, 0, 0, b23, b24, b25, b26, b27, b28, b29, b30, b31, b32, b33, b34, b35, b36, b37, b38, b39, b40, b41, b42, b43, b44, b45, b46, b47, b48, b49] : List Nat).getD n 0 := fun n hn => by rw [had]; exact e_ad3 hn
  have h4 : ∀ n, n < 1000000 → ad (4000000 + n) = ([u0, u1, u2, u3, u4] : List Nat).getD n 0 := fun n hn => by rw [had]; exact e_ad4 hn
  have h5 : ad 5000000 = b := by rw [had]; exact e_ad5
  have m6 : ad (2000000 + 6) = a6 := h2 6 (by decide)
  have m7 : ad (2000000 + 7) = a7 := h2 7 (by decide)
  have m8 : ad (2000000 + 8) = a8 := h2 8 (by decide)
  have m9 : ad (2000000 + 9) = a9 := h2 9 (by decide)
  have m10 : ad (2000000 + 10) = a10 := h2 10 (by decide)
  have m11 : ad (2000000 + 11) = a11 := h2 11 (by decide)
  have m12 : ad (2000000 + 12) = a12 := h2 12 (by decide)
  have m13 : ad (2000000 + 13) = a13 := h2 13 (by decide)
  have m14 : ad (2000000 + 14) = a14 := h2 14 (by decide)
  have m15 : ad (2000000 + 15) = a15 := h2 15 (by decide)
  have m16 : ad (2000000 + 16) = a16 := h2 16 (by decide)
  have m17 : ad (2000000 + 17) = a17 := h2 17 (by decide)
  have m18 : ad (2000000 + 18) = a18 := h2 18 (by decide)
  have m19 : ad (2000000 + 19) = a19 := h2 19 (by decide)
  have m20 : ad (2000000 + 20) = a20 := h2 20 (by decide)
  have m21 : ad (2000000 + 21) = a21 := h2 21 (by decide)
  have m22 : ad (2000000 + 22) = a22 := h2 22 (by decide)
  have m23 : ad (2000000 + 23) = a23 := h2 23 (by decide)
  have m24 : ad (2000000 + 24) = a24 := h2 24 (by decide)
  have m25 : ad (2000000 + 25) = a25 := h2 25 (by decide)
  have m26 : ad (2000000 + 26) = a26 := h2 26 (by decide)
  have m27 : ad (2000000 + 27) = a27 := h2 27 (by decide)
  have m28 : ad (2000000 + 28) = a28 := h2 28 (by decide)
  have m29 : ad (2000000 + 29) = a29 := h2 29 (by decide)
  have m30 : ad (2000000 + 30) = a30 := h2 30 (by decide)
  have m31 : ad (2000000 + 31) = a31 := h2 31 (by decide)
  have m32 : ad (2000000 + 32) = a32 := h2 32 (by decide)
  have m33 : ad (2000000 + 33) = a33 := h2 33 (by decide)
  have m34 : ad (2000000 + 34) = a34 := h2 34 (by decide)
  have m35 : ad (2000000 + 35) = a35 := h2 35 (by decide)
  have m36 : ad (2000000 + 36) = a36 := h2 36 (by decide)
  have n23 : ad (3000000 + 23) = b23 := h3 23 (by decide)
  have n24 : ad (3000000 + 24) = b24 := h3 24 (by decide)
  have n25 : ad (3000000 + 25) = b25 := h3 25 (by decide)
  have n26 : ad (3000000 + 26) = b26 := h3 26 (by decide)
  have n27 : ad (3000000 + 27) = b27 := h3 27 (by decide)
  have n28 : ad (3000000 + 28) = b28 := h3 28 (by decide)
  have n29 : ad (3000000 + 29) = b29 := h3 29 (by decide)
  have n30 : ad (3000000 + 30) = b30 := h3 30 (by decide)
  have n31 : ad (3000000 + 31) = b31 := h3 31 (by decide)
  have n32 : ad (3000000 + 32) = b32 := h3 32 (by decide)
  have n33 : ad (3000000 + 33) = b33 := h3 33 (by decide)
  have n34 : ad (3000000 + 34) = b34 := h3 34 (by decide)
  have n35 : ad (3000000 + 35) = b35 := h3 35 (by decide)
  have n36 : ad (3000000 + 36) = b36 := h3 36 (by decide)
  have m37 : ad (2000000 + 37) = a37 := h2 37 (by decide)
  have n37 : ad (3000000 + 37) = b37 := h3 37 (by decide)
  have m38 : ad (2000000 + 38) = a38 := h2 38 (by decide)
  have n38 : ad (3000000 + 38) = b38 := h3 38 (by decide)
  have m39 : ad (2000000 + 39) = a39 := h2 39 (by decide)
  have n39 : ad (3000000 + 39) = b39 := h3 39 (by decide)
  have m40 : ad (2000000 + 40) = a40 := h2 40 (by decide)
  have n40 : ad (3000000 + 40) = b40 := h3 40 (by decide)
  have m41 : ad (2000000 + 41) = a41 := h2 41 (by decide)
  have n41 : ad (3000000 + 41) = b41 := h3 41 (by decide)
  have m42 : ad (2000000 + 42) = a42 := h2 42 (by decide)
  have n42 : ad (3000000 + 42) = b42 := h3 42 (by decide)
  have m43 : ad (2000000 + 43) = a43 := h2 43 (by decide)
  have n43 : ad (3000000 + 43) = b43 := h3 43 (by decide)
  have m44 : ad (2000000 + 44) = a44 := h2 44 (by decide)
  have n44 : ad (3000000 + 44) = b44 := h3 44 (by decide)
  have m45 : ad (2000000 + 45) = a45 := h2 45 (by decide)
  have n45 : ad (3000000 + 45) = b45 := h3 45 (by decide)
  have m46 : ad (2000000 + 46) = a46 := h2 46 (by decide)
  have n46 : ad (3000000 + 46) = b46 := h3 46 (by decide)
  have m47 : ad (2000000 + 47) = a47 := h2 47 (by decide)
  have n47 : ad (3000000 + 47) = b47 := h3 47 (by decide)
  have m48 : ad (2000000 + 48) = a48 := h2 48 (by decide)
  have n48 : ad (3000000 + 48) = b48 := h3 48 (by decide)
  have m49 : ad (2000000 + 49) = a49 := h2 49 (by decide)
  have n49 : ad (3000000 + 49) = b49 := h3 49 (by decide)
  have kk0 : ad (1000000 + 0) = k0 := h1 0 (by decide)
  have kk1 : ad (1000000 + 1) = k1 := h1 1 (by decide)
  have kk2 : ad (1000000 + 2) = k2 := h1 2 (by decide)
  have kk3 : ad (1000000 + 3) = k3 := h1 3 (by decide)
  have kk4 : ad (1000000 + 4) = k4 := h1 4 (by decide)
  have kk5 : ad (1000000 + 5) = k5 := h1 5 (by decide)
  have kk6 : ad (1000000 + 6) = k6 := h1 6 (by decide)
  have g0 : ad 4000000 = u0 := h4 0 (by decide)
  have g1 : ad 4000001 = u1 := h4 1 (by decide)
  have g2 : ad 4000002 = u2 := h4 2 (by decide)
  have g3 : ad 4000003 = u3 := h4 3 (by decide)
  have g4 : ad 4000004 = u4 := h4 4 (by decide)
  have e3 : (∀ q ∈ o_nM, va_Nw (.methodLinkNest q.1 q.2.1 q.2.2.1 q.2.2.2) s) ∧ va_Nw o_nF s ∧ (∀ X ∈ o_exs, va_Nw (.castable X X) s) ∧ (∀ q ∈ o_ncs, va_Nc q.1 q.2 s) ∧ ∀ y ∈ o_dcl, va_Nw (.declares y) s := by
    refine ⟨?_, va_Nw.of rfl (e_tb ht (i := 1400) (by decide +kernel)), ?_, ?_, ?_⟩
    · exact (List.forall_mem_cons.mpr ⟨(va_Nw.of rfl (e_tb ht (i := 48) (by decide +kernel))), (List.forall_mem_cons.mpr ⟨(va_Nw.of rfl (e_tb ht (i := 54) (by decide +kernel))), (List.forall_mem_cons.mpr ⟨(va_Nw.of rfl (e_tb ht (i := 83) (by decide +kernel))), (List.forall_mem_cons.mpr ⟨(va_Nw.of rfl (e_tb ht (i := 123) (by decide +kernel))), (List.forall_mem_cons.mpr ⟨(va_Nw.of rfl (e_tb ht (i := 186) (by decide +kernel))), (List.forall_mem_cons.mpr ⟨(va_Nw.of rfl (e_tb ht (i := 200) (by decide +kernel))), (List.forall_mem_cons.mpr ⟨(va_Nw.of rfl (e_tb ht (i := 210) (by decide +kernel))), (List.forall_mem_cons.mpr ⟨(va_Nw.of rfl (e_tb ht (i := 236) (by decide +kernel))), (fun _ h9 => absurd h9 List.not_mem_nil)⟩)⟩)⟩)⟩)⟩)⟩)⟩)⟩)
    · exact (List.forall_mem_cons.mpr ⟨(va_Nw.of rfl (e_tb ht (i := 910) (by decide +kernel))), (List.forall_mem_cons.mpr ⟨(va_Nw.of rfl (e_tb ht (i := 688) (by decide +kernel))), (List.forall_mem_cons.mpr ⟨(va_Nw.of rfl (e_tb ht (i := 926) (by decide +kernel))), (List.forall_mem_cons.mpr ⟨(va_Nw.of rfl (e_tb ht (i := 942) (by decide +kernel))), (List.forall_mem_cons.mpr ⟨(va_Nw.of rfl (e_tb ht (i := 958) (by decide +kernel))), (List.forall_mem_cons.mpr ⟨(va_Nw.of rfl (e_tb ht (i := 1352) (by decide +kernel))), (fun _ h9 => absurd h9 List.not_mem_nil)⟩)⟩)⟩)⟩)⟩)⟩)
    · exact (List.forall_mem_cons.mpr ⟨(va_Nc.of (e_at h (i := 330) (by decide +kernel))), (List.forall_mem_cons.mpr ⟨(va_Nc.of (e_at h (i := 350) (by decide +kernel))), (List.forall_mem_cons.mpr ⟨(va_Nc.of (e_at h (i := 351) (by decide +kernel))), (List.forall_mem_cons.mpr ⟨(va_Nc.of (e_at h (i := 353) (by decide +kernel))), (List.forall_mem_cons.mpr ⟨(va_Nc.of (e_at h (i := 332) (by decide +kernel))), (List.forall_mem_cons.mpr ⟨(va_Nc.of (e_at h (i := 311) (by decide +kernel))), (List.forall_mem_cons.mpr ⟨(va_Nc.of (e_at h (i := 352) (by decide +kernel))), (List.forall_mem_cons.mpr ⟨(va_Nc.of (e_at h (i := 331) (by decide +kernel))), (List.forall_mem_cons.mpr ⟨(va_Nc.of (e_at h (i := 392) (by decide +kernel))), (fun _ h9 => absurd h9 List.not_mem_nil)⟩)⟩)⟩)⟩)⟩)⟩)⟩)⟩)⟩)
    · exact (List.forall_mem_cons.mpr ⟨(va_Nw.of rfl (e_tb ht (i := 690) (by decide +kernel))), (List.forall_mem_cons.mpr ⟨(va_Nw.of rfl (e_tb ht (i := 692) (by decide +kernel))), (List.forall_mem_cons.mpr ⟨(va_Nw.of rfl (e_tb ht (i := 694) (by decide +kernel))), (fun _ h9 => absurd h9 List.not_mem_nil)⟩)⟩)⟩)
  have e5 : ∀ q ∈ o_str, vk_R q.1 q.2.1 q.2.2.1 (ad (2000000 + q.2.2.2)) s := by
    exact (List.forall_mem_cons.mpr ⟨(by show vk_R _ _ _ (ad (2000000 + 6)) s; rw [m6]; exact vk_R.of (A := args) (e_tb ht (i := 917) (by decide +kernel)) s6), (List.forall_mem_cons.mpr ⟨(by show vk_R _ _ _ (ad (2000000 + 7)) s; rw [m7]; exact vk_R.of (A := args) (e_tb ht (i := 922) (by decide +kernel)) s7), (List.forall_mem_cons.mpr ⟨(by show vk_R _ _ _ (ad (2000000 + 8)) s; rw [m8]; exact vk_R.of (A := args) (e_tb ht (i := 933) (by decide +kernel)) s8), (List.forall_mem_cons.mpr ⟨(by show vk_R _ _ _ (ad (2000000 + 9)) s; rw [m9]; exact vk_R.of (A := args) (e_tb ht (i := 949) (by decide +kernel)) s9), (List.forall_mem_cons.mpr ⟨(by show vk_R _ _ _ (ad (2000000 + 10)) s; rw [m10]; exact vk_R.of (A := args) (e_tb ht (i := 965) (by decide +kernel)) s10), (List.forall_mem_cons.mpr ⟨(by show vk_R _ _ _ (ad (2000000 + 11)) s; rw [m11]; exact vk_R.of (A := args) (e_tb ht (i := 1153) (by decide +kernel)) s11), (List.forall_mem_cons.mpr ⟨(by show vk_R _ _ _ (ad (2000000 + 12)) s; rw [m12]; exact vk_R.of (A := args) (e_tb ht (i := 1196) (by decide +kernel)) s12), (List.forall_mem_cons.mpr ⟨(by show vk_R _ _ _ (ad (2000000 + 13)) s; rw [m13]; exact vk_R.of (A := args) (e_tb ht (i := 1250) (by decide +kernel)) s13), (List.forall_mem_cons.mpr ⟨(by show vk_R _ _ _ (ad (2000000 + 14)) s; rw [m14]; exact vk_R.of (A := args) (e_tb ht (i := 1291) (by decide +kernel)) s14), (List.forall_mem_cons.mpr ⟨(by show vk_R _ _ _ (ad (2000000 + 15)) s; rw [m15]; exact vk_R.of (A := args) (e_tb ht (i := 1359) (by decide +kernel)) s15), (List.forall_mem_cons.mpr ⟨(by show vk_R _ _ _ (ad (2000000 + 16)) s; rw [m16]; exact vk_R.of (A := args) (e_tb ht (i := 1368) (by decide +kernel)) s16), (List.forall_mem_cons.mpr ⟨(by show vk_R _ _ _ (ad (2000000 + 17)) s; rw [m17]; exact vk_R.of (A := args) (e_tb ht (i := 1376) (by decide +kernel)) s17), (List.forall_mem_cons.mpr ⟨(by show vk_R _ _ _ (ad (2000000 + 18)) s; rw [m18]; exact vk_R.of (A := args) (e_tb ht (i := 1443) (by decide +kernel)) s18), (List.forall_mem_cons.mpr ⟨(by show vk_R _ _ _ (ad (2000000 + 19)) s; rw [m19]; exact vk_R.of (A := args) (e_tb ht (i := 1468) (by decide +kernel)) s19), (List.forall_mem_cons.mpr ⟨(by show vk_R _ _ _ (ad (2000000 + 20)) s; rw [m20]; exact vk_R.of (A := args) (e_tb ht (i := 1501) (by decide +kernel)) s20), (List.forall_mem_cons.mpr ⟨(by show vk_R _ _ _ (ad (2000000 + 21)) s; rw [m21]; exact vk_R.of (A := args) (e_tb ht (i := 1519) (by decide +kernel)) s21), (List.forall_mem_cons.mpr ⟨(by show vk_R _ _ _ (ad (2000000 + 22)) s; rw [m22]; exact vk_R.of (A := args) (e_tb ht (i := 1531) (by decide +kernel)) s22), (List.forall_mem_cons.mpr ⟨(by show vk_R _ _ _ (ad (2000000 + 23)) s; rw [m23]; exact vk_R.of (A := args) (e_tb ht (i := 1928) (by decide +kernel)) s23), (List.forall_mem_cons.mpr ⟨(by show vk_R _ _ _ (ad (2000000 + 24)) s; rw [m24]; exact vk_R.of (A := args) (e_tb ht (i := 1929) (by decide +kernel)) s24), (List.forall_mem_cons.mpr ⟨(by show vk_R _ _ _ (ad (2000000 + 25)) s; rw [m25]; exact vk_R.of (A := args) (e_tb ht (i := 1940) (by decide +kernel)) s25), (List.forall_mem_cons.mpr ⟨(by show vk_R _ _ _ (ad (2000000 + 26)) s; rw [m26]; exact vk_R.of (A := args) (e_tb ht (i := 1945) (by decide +kernel)) s26), (List.forall_mem_cons.mpr ⟨(by show vk_R _ _ _ (ad (2000000 + 27)) s; rw [m27]; exact vk_R.of (A := args) (e_tb ht (i := 1946) (by decide +kernel)) s27), (List.forall_mem_cons.mpr ⟨(by show vk_R _ _ _ (ad (2000000 + 28)) s; rw [m28]; exact vk_R.of (A := args) (e_tb ht (i := 1947) (by decide +kernel)) s28), (List.forall_mem_cons.mpr ⟨(by show vk_R _ _ _ (ad (2000000 + 29)) s; rw [m29]; exact vk_R.of (A := args) (e_tb ht (i := 1948) (by decide +kernel)) s29), (List.forall_mem_cons.mpr ⟨(by show vk_R _ _ _ (ad (2000000 + 30)) s; rw [m30]; exact vk_R.of (A := args) (e_tb ht (i := 1949) (by decide +kernel)) s30), (List.forall_mem_cons.mpr ⟨(by show vk_R _ _ _ (ad (2000000 + 31)) s; rw [m31]; exact vk_R.of (A := args) (e_tb ht (i := 1954) (by decide +kernel)) s31), (List.forall_mem_cons.mpr ⟨(by show vk_R _ _ _ (ad (2000000 + 32)) s; rw [m32]; exact vk_R.of (A := args) (e_tb ht (i := 1955) (by decide +kernel)) s32), (List.forall_mem_cons.mpr ⟨(by show vk_R _ _ _ (ad (2000000 + 33)) s; rw [m33]; exact vk_R.of (A := args) (e_tb ht (i := 1956) (by decide +kernel)) s33), (List.forall_mem_cons.mpr ⟨(by show vk_R _ _ _ (ad (2000000 + 34)) s; rw [m34]; exact vk_R.of (A := args) (e_tb ht (i := 1957) (by decide +kernel)) s34), (List.forall_mem_cons.mpr ⟨(by show vk_R _ _ _ (ad (2000000 + 35)) s; rw [m35]; exact vk_R.of (A := args) (e_tb ht (i := 1958) (by decide +kernel)) s35), (List.forall_mem_cons.mpr ⟨(by show vk_R _ _ _ (ad (2000000 + 36)) s; rw [m36]; exact vk_R.of (A := args) (e_tb ht (i := 1959) (by decide +kernel)) s36), (fun _ h9 => absurd h9 List.not_mem_nil)⟩)⟩)⟩)⟩)⟩)⟩)⟩)⟩)⟩)⟩)⟩)⟩)⟩)⟩)⟩)⟩)⟩)⟩)⟩)⟩)⟩)⟩)⟩)⟩)⟩)⟩)⟩)⟩)⟩)⟩)⟩)
  have e2b : o_E2b (e_A s) ad s s.heap := by
    unfold o_E2b
    exact (List.forall_mem_cons.mpr ⟨(by show va_O _ (ad (2000000 + 23)) _ _ _ ∧ va_OF _ _ _ _ (ad (2000000 + 23)) _ _ _ ∧ va_OF _ _ _ (.ref (ad (3000000 + 23))) (ad (2000000 + 23)) _ _ _ ∧ va_T _ (ad (3000000 + 23)) _ _ _ _ _; rw [m23, n23]; exact ⟨o23, p23, q23, r23⟩), (List.forall_mem_cons.mpr ⟨(by show va_O _ (ad (2000000 + 24)) _ _ _ ∧ va_OF _ _ _ _ (ad (2000000 + 24)) _ _ _ ∧ va_OF _ _ _ (.ref (ad (3000000 + 24))) (ad (2000000 + 24)) _ _ _ ∧ va_T _ (ad (3000000 + 24)) _ _ _ _ _; rw [m24, n24]; exact ⟨o24, p24, q24, r24⟩), (List.forall_mem_cons.mpr ⟨(by show va_O _ (ad (2000000 + 25)) _ _ _ ∧ va_OF _ _ _ _ (ad (2000000 + 25)) _ _ _ ∧ va_OF _ _ _ (.ref (ad (3000000 + 25))) (ad (2000000 + 25)) _ _ _ ∧ va_T _ (ad (3000000 + 25)) _ _ _ _ _; rw [m25, n25]; exact ⟨o25, p25, q25, r25⟩), (List.forall_mem_cons.mpr ⟨(by show va_O _ (ad (2000000 + 26)) _ _ _ ∧ va_OF _ _ _ _ (ad (2000000 + 26)) _ _ _ ∧ va_OF _ _ _ (.ref (ad (3000000 + 26))) (ad (2000000 + 26)) _ _ _ ∧ va_T _ (ad (3000000 + 26)) _ _ _ _ _; rw [m26, n26]; exact ⟨o26, p26, q26, r26⟩), (List.forall_mem_cons.mpr ⟨(by show va_O _ (ad (2000000 + 27)) _ _ _ ∧ va_OF _ _ _ _ (ad (2000000 + 27)) _ _ _ ∧ va_OF _ _ _ (.ref (ad (3000000 + 27))) (ad (2000000 + 27)) _ _ _ ∧ va_T _ (ad (3000000 + 27)) _ _ _ _ _; rw [m27, n27]; exact ⟨o27, p27, q27, r27⟩), (List.forall_mem_cons.mpr ⟨(by show va_O _ (ad (2000000 + 28)) _ _ _ ∧ va_OF _ _ _ _ (ad (2000000 + 28)) _ _ _ ∧ va_OF _ _ _ (.ref (ad (3000000 + 28))) (ad (2000000 + 28)) _ _ _ ∧ va_T _ (ad (3000000 + 28)) _ _ _ _ _; rw [m28, n28]; exact ⟨o28, p28, q28, r28⟩), (List.forall_mem_cons.mpr ⟨(by show va_O _ (ad (2000000 + 29)) _ _ _ ∧ va_OF _ _ _ _ (ad (2000000 + 29)) _ _ _ ∧ va_OF _ _ _ (.ref (ad (3000000 + 29))) (ad (2000000 + 29)) _ _ _ ∧ va_T _ (ad (3000000 + 29)) _ _ _ _ _; rw [m29, n29]; exact ⟨o29, p29, q29, r29⟩), (List.forall_mem_cons.mpr ⟨(by show va_O _ (ad (2000000 + 30)) _ _ _ ∧ va_OF _ _ _ _ (ad (2000000 + 30)) _ _ _ ∧ va_OF _ _ _ (.ref (ad (3000000 + 30))) (ad (2000000 + 30)) _ _ _ ∧ va_T _ (ad (3000000 + 30)) _ _ _ _ _; rw [m30, n30]; exact ⟨o30, p30, q30, r30⟩), (List.forall_mem_cons.mpr ⟨(by show va_O _ (ad (2000000 + 31)) _ _ _ ∧ va_OF _ _ _ _ (ad (2000000 + 31)) _ _ _ ∧ va_OF _ _ _ (.ref (ad (3000000 + 31))) (ad (2000000 + 31)) _ _ _ ∧ va_T _ (ad (3000000 + 31)) _ _ _ _ _; rw [m31, n31]; exact ⟨o31, p31, q31, r31⟩), (List.forall_mem_cons.mpr ⟨(by show va_O _ (ad (2000000 + 32)) _ _ _ ∧ va_OF _ _ _ _ (ad (2000000 + 32)) _ _ _ ∧ va_OF _ _ _ (.ref (ad (3000000 + 32))) (ad (2000000 + 32)) _ _ _ ∧ va_T _ (ad (3000000 + 32)) _ _ _ _ _; rw [m32, n32]; exact ⟨o32, p32, q32, r32⟩), (List.forall_mem_cons.mpr ⟨(by show va_O _ (ad (2000000 + 33)) _ _ _ ∧ va_OF _ _ _ _ (ad (2000000 + 33)) _ _ _ ∧ va_OF _ _ _ (.ref (ad (3000000 + 33))) (ad (2000000 + 33)) _ _ _ ∧ va_T _ (ad (3000000 + 33)) _ _ _ _ _; rw [m33, n33]; exact ⟨o33, p33, q33, r33⟩), (List.forall_mem_cons.mpr ⟨(by show va_O _ (ad (2000000 + 34)) _ _ _ ∧ va_OF _ _ _ _ (ad (2000000 + 34)) _ _ _ ∧ va_OF _ _ _ (.ref (ad (3000000 + 34))) (ad (2000000 + 34)) _ _ _ ∧ va_T _ (ad (3000000 + 34)) _ _ _ _ _; rw [m34, n34]; exact ⟨o34, p34, q34, r34⟩), (List.forall_mem_cons.mpr ⟨(by show va_O _ (ad (2000000 + 35)) _ _ _ ∧ va_OF _ _ _ _ (ad (2000000 + 35)) _ _ _ ∧ va_OF _ _ _ (.ref (ad (3000000 + 35))) (ad (2000000 + 35)) _ _ _ ∧ va_T _ (ad (3000000 + 35)) _ _ _ _ _; rw [m35, n35]; exact ⟨o35, p35, q35, r35⟩), (List.forall_mem_cons.mpr ⟨(by show va_O _ (ad (2000000 + 36)) _ _ _ ∧ va_OF _ _ _ _ (ad (2000000 + 36)) _ _ _ ∧ va_OF _ _ _ (.ref (ad (3000000 + 36))) (ad (2000000 + 36)) _ _ _ ∧ va_T _ (ad (3000000 + 36)) _ _ _ _ _; rw [m36, n36]; exact ⟨o36, p36, q36, r36⟩), (List.forall_mem_cons.mpr ⟨(by show va_O _ (ad (2000000 + 37)) _ _ _ ∧ va_OF _ _ _ _ (ad (2000000 + 37)) _ _ _ ∧ va_OF _ _ _ (.ref (ad (3000000 + 37))) (ad (2000000 + 37)) _ _ _ ∧ va_T _ (ad (3000000 + 37)) _ _ _ _ _; rw [m37, n37]; exact ⟨o37, p37, q37, r37⟩), (List.forall_mem_cons.mpr ⟨(by show va_O _ (ad (2000000 + 38)) _ _ _ ∧ va_OF _ _ _ _ (ad (2000000 + 38)) _ _ _ ∧ va_OF _ _ _ (.ref (ad (3000000 + 38))) (ad (2000000 + 38)) _ _ _ ∧ va_T _ (ad (3000000 + 38)) _ _ _ _ _; rw [m38, n38]; exact ⟨o38, p38, q38, r38⟩), (List.forall_mem_cons.mpr ⟨(by show va_O _ (ad (2000000 + 39)) _ _ _ ∧ va_OF _ _ _ _ (ad (2000000 + 39)) _ _ _ ∧ va_OF _ _ _ (.ref (ad (3000000 + 39))) (ad (2000000 + 39)) _ _ _ ∧ va_T _ (ad (3000000 + 39)) _ _ _ _ _; rw [m39, n39]; exact ⟨o39, p39, q39, r39⟩), (List.forall_mem_cons.mpr ⟨(by show va_O _ (ad (2000000 + 40)) _ _ _ ∧ va_OF _ _ _ _ (ad (2000000 + 40)) _ _ _ ∧ va_OF _ _ _ (.ref (ad (3000000 + 40))) (ad (2000000 + 40)) _ _ _ ∧ va_T _ (ad (3000000 + 40)) _ _ _ _ _; rw [m40, n40]; exact ⟨o40, p40, q40, r40⟩), (List.forall_mem_cons.mpr ⟨(by show va_O _ (ad (2000000 + 41)) _ _ _ ∧ va_OF _ _ _ _ (ad (2000000 + 41)) _ _ _ ∧ va_OF _ _ _ (.ref (ad (3000000 + 41))) (ad (2000000 + 41)) _ _ _ ∧ va_T _ (ad (3000000 + 41)) _ _ _ _ _; rw [m41, n41]; exact ⟨o41, p41, q41, r41⟩), (List.forall_mem_cons.mpr ⟨(by show va_O _ (ad (2000000 + 42)) _ _ _ ∧ va_OF _ _ _ _ (ad (2000000 + 42)) _ _ _ ∧ va_OF _ _ _ (.ref (ad (3000000 + 42))) (ad (2000000 + 42)) _ _ _ ∧ va_T _ (ad (3000000 + 42)) _ _ _ _ _; rw [m42, n42]; exact ⟨o42, p42, q42, r42⟩), (List.forall_mem_cons.mpr ⟨(by show va_O _ (ad (2000000 + 43)) _ _ _ ∧ va_OF _ _ _ _ (ad (2000000 + 43)) _ _ _ ∧ va_OF _ _ _ (.ref (ad (3000000 + 43))) (ad (2000000 + 43)) _ _ _ ∧ va_T _ (ad (3000000 + 43)) _ _ _ _ _; rw [m43, n43]; exact ⟨o43, p43, q43, r43⟩), (List.forall_mem_cons.mpr ⟨(by show va_O _ (ad (2000000 + 44)) _ _ _ ∧ va_OF _ _ _ _ (ad (2000000 + 44)) _ _ _ ∧ va_OF _ _ _ (.ref (ad (3000000 + 44))) (ad (2000000 + 44)) _ _ _ ∧ va_T _ (ad (3000000 + 44)) _ _ _ _ _; rw [m44, n44]; exact ⟨o44, p44, q44, r44⟩), (List.forall_mem_cons.mpr ⟨(by show va_O _ (ad (2000000 + 45)) _ _ _ ∧ va_OF _ _ _ _ (ad (2000000 + 45)) _ _ _ ∧ va_OF _ _ _ (.ref (ad (3000000 + 45))) (ad (2000000 + 45)) _ _ _ ∧ va_T _ (ad (3000000 + 45)) _ _ _ _ _; rw [m45, n45]; exact ⟨o45, p45, q45, r45⟩), (List.forall_mem_cons.mpr ⟨(by show va_O _ (ad (2000000 + 46)) _ _ _ ∧ va_OF _ _ _ _ (ad (2000000 + 46)) _ _ _ ∧ va_OF _ _ _ (.ref (ad (3000000 + 46))) (ad (2000000 + 46)) _ _ _ ∧ va_T _ (ad (3000000 + 46)) _ _ _ _ _; rw [m46, n46]; exact ⟨o46, p46, q46, r46⟩), (List.forall_mem_cons.mpr ⟨(by show va_O _ (ad (2000000 + 47)) _ _ _ ∧ va_OF _ _ _ _ (ad (2000000 + 47)) _ _ _ ∧ va_OF _ _ _ (.ref (ad (3000000 + 47))) (ad (2000000 + 47)) _ _ _ ∧ va_T _ (ad (3000000 + 47)) _ _ _ _ _; rw [m47, n47]; exact ⟨o47, p47, q47, r47⟩), (List.forall_mem_cons.mpr ⟨(by show va_O _ (ad (2000000 + 48)) _ _ _ ∧ va_OF _ _ _ _ (ad (2000000 + 48)) _ _ _ ∧ va_OF _ _ _ (.ref (ad (3000000 + 48))) (ad (2000000 + 48)) _ _ _ ∧ va_T _ (ad (3000000 + 48)) _ _ _ _ _; rw [m48, n48]; exact ⟨o48, p48, q48, r48⟩), (List.forall_mem_cons.mpr ⟨(by show va_O _ (ad (2000000 + 49)) _ _ _ ∧ va_OF _ _ _ _ (ad (2000000 + 49)) _ _ _ ∧ va_OF _ _ _ (.ref (ad (3000000 + 49))) (ad (2000000 + 49)) _ _ _ ∧ va_T _ (ad (3000000 + 49)) _ _ _ _ _; rw [m49, n49]; exact ⟨o49, p49, q49, r49⟩), (fun _ h9 => absurd h9 List.not_mem_nil)⟩)⟩)⟩)⟩)⟩)⟩)⟩)⟩)⟩)⟩)⟩)⟩)⟩)⟩)⟩)⟩)⟩)⟩)⟩)⟩)⟩)⟩)⟩)⟩)⟩)⟩)⟩)
  have e2c : o_E2c (e_A s) ad s s.heap := by
    intro i q hq
    match i, hq with
    | 0, hq =>
      cases hq
      show va_Z _ _ _ (.ref (ad (1000000 + 0))) _ _ _ ∧ va_O _ (ad (1000000 + 0)) _ _ _ ∧ va_OF _ _ _ _ (ad (1000000 + 0)) _ _ _ ∧ va_OF _ _ _ (.ref (ad (2000000 + 37))) (ad (1000000 + 0)) _ _ _ ∧ va_OF _ _ _ (.ref (ad (2000000 + 38))) (ad (1000000 + 0)) _ _ _ ∧ va_OF _ _ _ _ (ad (1000000 + 0)) _ _ _
      rw [kk0, m37, m38]
      exact ⟨kz0, ko0, kf0, kg0, kh0, ki0⟩
    | 1, hq =>
      cases hq
      show va_Z _ _ _ (.ref (ad (1000000 + 1))) _ _ _ ∧ va_O _ (ad (1000000 + 1)) _ _ _ ∧ va_OF _ _ _ _ (ad (1000000 + 1)) _ _ _ ∧ va_OF _ _ _ (.ref (ad (2000000 + 39))) (ad (1000000 + 1)) _ _ _ ∧ va_OF _ _ _ (.ref (ad (2000000 + 40))) (ad (1000000 + 1)) _ _ _ ∧ va_OF _ _ _ _ (ad (1000000 + 1)) _ _ _
      rw [kk1, m39, m40]
      exact ⟨kz1, ko1, kf1, kg1, kh1, ki1⟩
    | 2, hq =>
      cases hq
      show va_Z _ _ _ (.ref (ad (1000000 + 2))) _ _ _ ∧ va_O _ (ad (1000000 + 2)) _ _ _ ∧ va_OF _ _ _ _ (ad (1000000 + 2)) _ _ _ ∧ va_OF _ _ _ (.ref (ad (2000000 + 41))) (ad (1000000 + 2)) _ _ _ ∧ va_OF _ _ _ (.ref (ad (2000000 + 42))) (ad (1000000 + 2)) _ _ _ ∧ va_OF _ _ _ _ (ad (1000000 + 2)) _ _ _
      rw [kk2, m41, m42]
      exact ⟨kz2, ko2, kf2, kg2, kh2, ki2⟩
    | 3, hq =>
      cases hq
      show va_Z _ _ _ (.ref (ad (1000000 + 3))) _ _ _ ∧ va_O _ (ad (1000000 + 3)) _ _ _ ∧ va_OF _ _ _ _ (ad (1000000 + 3)) _ _ _ ∧ va_OF _ _ _ (.ref (ad (2000000 + 43))) (ad (1000000 + 3)) _ _ _ ∧ va_OF _ _ _ (.ref (ad (2000000 + 44))) (ad (1000000 + 3)) _ _ _ ∧ va_OF _ _ _ _ (ad (1000000 + 3)) _ _ _
      rw [kk3, m43, m44]
      exact ⟨kz3, ko3, kf3, kg3, kh3, ki3⟩
    | 4, hq =>
      cases hq
      show va_Z _ _ _ (.ref (ad (1000000 + 4))) _ _ _ ∧ va_O _ (ad (1000000 + 4)) _ _ _ ∧ va_OF _ _ _ _ (ad (1000000 + 4)) _ _ _ ∧ va_OF _ _ _ (.ref (ad (2000000 + 45))) (ad (1000000 + 4)) _ _ _ ∧ va_OF _ _ _ (.ref (ad (2000000 + 46))) (ad (1000000 + 4)) _ _ _ ∧ va_OF _ _ _ _ (ad (1000000 + 4)) _ _ _
      rw [kk4, m45, m46]
      exact ⟨kz4, ko4, kf4, kg4, kh4, ki4⟩
    | 5, hq =>
      cases hq
      show va_Z _ _ _ (.ref (ad (1000000 + 5))) _ _ _ ∧ va_O _ (ad (1000000 + 5)) _ _ _ ∧ va_OF _ _ _ _ (ad (1000000 + 5)) _ _ _ ∧ va_OF _ _ _ (.ref (ad (2000000 + 47))) (ad (1000000 + 5)) _ _ _ ∧ va_OF _ _ _ (.ref (ad (2000000 + 40))) (ad (1000000 + 5)) _ _ _ ∧ va_OF _ _ _ _ (ad (1000000 + 5)) _ _ _
      rw [kk5, m47, m40]
      exact ⟨kz5, ko5, kf5, kg5, kh5, ki5⟩
    | 6, hq =>
      cases hq
      show va_Z _ _ _ (.ref (ad (1000000 + 6))) _ _ _ ∧ va_O _ (ad (1000000 + 6)) _ _ _ ∧ va_OF _ _ _ _ (ad (1000000 + 6)) _ _ _ ∧ va_OF _ _ _ (.ref (ad (2000000 + 48))) (ad (1000000 + 6)) _ _ _ ∧ va_OF _ _ _ (.ref (ad (2000000 + 49))) (ad (1000000 + 6)) _ _ _ ∧ va_OF _ _ _ _ (ad (1000000 + 6)) _ _ _
      rw [kk6, m48, m49]
      exact ⟨kz6, ko6, kf6, kg6, kh6, ki6⟩
    | i + 7, hq => exact absurd hq (by intro z; cases z)
  have e2d : o_E2d (e_A s) ad s s.heap := by
    unfold o_E2d
    rw [g0, g1, g2, g3, g4]
    refine ⟨va_Zref (e_tb ht (i := 1401) (by decide +kernel)) (e_tb ht (i := 1) (by decide +kernel)) v0 (e_hA s), ?_, va_Zref (e_tb ht (i := 1449) (by decide +kernel)) (e_tb ht (i := 32) (by decide +kernel)) v1 (e_hA s), w1, va_Zref (e_tb ht (i := 639) (by decide +kernel)) (e_tb ht (i := 37) (by decide +kernel)) v2 (e_hA s), w2, va_Zref (e_tb ht (i := 641) (by decide +kernel)) (e_tb ht (i := 37) (by decide +kernel)) v3 (e_hA s), w3, hu4⟩
    obtain ⟨cell, z1, z2, z3, z4, z5, z6, z7⟩ := w0
    refine ⟨cell, z1, z2, z3, z4, z5, fun j hj => ?_, z7⟩
    rw [z6 j hj]
    show some (Value.ref _) = some (Value.ref (ad (1000000 + j)))
    rw [h1 j (by omega)]
  have e2a : o_E2a (e_A s) s s.heap := ⟨vx_Zqof (e_tb ht (i := 713) (by decide +kernel)) (e_tb ht (i := 18) (by decide +kernel)) (e_at h (i := 220) (by decide +kernel)) (e_hA s), vx_Zqof (e_tb ht (i := 715) (by decide +kernel)) (e_tb ht (i := 18) (by decide +kernel)) (e_at h (i := 221) (by decide +kernel)) (e_hA s), va_Zof (e_tb ht (i := 282) (by decide +kernel)) (e_tb ht (i := 15) (by decide +kernel)) (va_eqi (e_at h (i := 9) (by decide +kernel))) (e_hA s)⟩
  refine ⟨(s.heap.size, D, cy, L, xs), ad, rfl, rfl, h5, Nat.le_refl _, hK, e3, e5, ⟨e2a, e2b, e2c, e2d⟩, by rw [h5]; exact hX, by rw [h5]; exact hb, ?_⟩
  exact (List.forall_mem_cons.mpr ⟨(va_AO.of (A := args) (e_tb ht (i := 185) (by decide +kernel))), (List.forall_mem_cons.mpr ⟨(va_AO.of (A := args) (e_tb ht (i := 234) (by decide +kernel))), (fun _ h9 => absurd h9 List.not_mem_nil)⟩)⟩)
