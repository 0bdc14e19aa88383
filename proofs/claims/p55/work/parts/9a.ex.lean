/-! what stands in the heap at the start -/
def e_L : List Cond := flatC (Jvm.Cond.and given_1 narrow_1)
theorem e_wd {args : Array Value} {s : State} (h : (Jvm.Cond.and given_1 narrow_1).before args s = true) {i : Nat} {w : Cond} (hi : e_L[i]? = some w) : w.before args s = true := flat_of_before _ h _ (List.mem_of_getElem? hi)
theorem e_tb {args : Array Value} {s : State} (h : ∀ w ∈ lw_tbl, w.before args s = true) {i : Nat} {w : Cond} (hi : tables_1[i]? = some w) : w.before args s = true := h _ (List.mem_append_right _ (List.mem_of_getElem? hi))
theorem e_ws {C : String} {T : u_T} {N : Nat} (is : List Nat) (h : u_ws C T N = is.filterMap (fun i => tables_1[i]?)) : ∀ w ∈ u_ws C T N, w ∈ lw_tbl := by
  intro w hw
  rw [h] at hw
  obtain ⟨i, -, hi⟩ := List.mem_filterMap.mp hw
  exact List.mem_append_right _ (List.mem_of_getElem? hi)
theorem e_selP {C : String} {z y : MethodName} {s : State} {args : Array Value} (hy : y.cls ≠ "java/lang/invoke/MethodHandle" ∧ y.cls ≠ "java/lang/invoke/VarHandle") (he : z.cls = y.cls) (hz : (Cond.selects C z z).before args s = true) (hpriv : (Cond.privateMethod y).before args s = true) (hinst : (Cond.instanceMethod y).before args s = true) : (Cond.selects C y y).before args s = true := by
  obtain ⟨c, r, m, hc, -, hm, -, k, hk, hni⟩ := Cond.selects_spec hz
  obtain ⟨mk, methM, hnamed, hmethM, -, -⟩ := Cond.instanceMethod_spec hinst
  have hfound : s.methodFound? y.cls y.name y.desc = some mk := State.methodFound?_of_named hnamed hy
  have hcls : mk.cls = m.cls := Option.some.inj ((findClass_of_methodNamed hnamed).symm.trans ((congrArg s.vm.findClass he).symm.trans (findClass_of_methodNamed hm)))
  have hsel : selectMethod {} s.vm c mk = .method mk := selectMethod_private hmethM (Cond.privateMethod_at hpriv mk methM hnamed hmethM)
  simp only [Cond.before, Cond.holds, Cond.value, hc, hfound, hnamed, hsel, hcls, hk]
  simp; exact hni
theorem e_gW {args : Array Value} {s : State} (h : ∀ w ∈ lw_tbl, w.before args s = true) : ∀ w ∈ o_gW, w.before args s = true := by
  intro w hw
  rcases List.mem_append.mp (List.mem_filter.mp hw).1 with q | q
  · unfold o_more at q
    rcases List.mem_cons.mp q with rfl | q
    · exact e_selP (z := yJ5_isLatin1_aae02) (by decide) rfl (e_tb h (i := 1134) (by decide +kernel)) (e_tb h (i := 1101) (by decide +kernel)) (e_tb h (i := 1102) (by decide +kernel))
    · rcases List.mem_cons.mp q with rfl | q
      · exact e_selP (z := yJ5_isLatin1_aae02) (by decide) rfl (e_tb h (i := 1134) (by decide +kernel)) (e_tb h (i := 1105) (by decide +kernel)) (e_tb h (i := 1106) (by decide +kernel))
      · rcases List.mem_cons.mp q with rfl | q
        · exact e_selP (z := yJ5_isLatin1_aae02) (by decide) rfl (e_tb h (i := 1134) (by decide +kernel)) (e_tb h (i := 1172) (by decide +kernel)) (e_tb h (i := 1173) (by decide +kernel))
        · rcases List.mem_singleton.mp q with rfl
          exact e_selP (z := yJ5_isLatin1_aae02) (by decide) rfl (e_tb h (i := 1134) (by decide +kernel)) (e_tb h (i := 1176) (by decide +kernel)) (e_tb h (i := 1177) (by decide +kernel))
  · exact h w q
theorem e_arr {ty : FieldType} {args : Array Value} {s : State} (h : (Cond.arrayClass ty).before args s = true) (hp : ∀ c, s.vm.findClass ("[" ++ ty.toString) = some c → va_RA s c ty) : ∃ c, ArrOfT s c ty ∧ va_RA s c ty := by
  obtain ⟨c, k, comp, h1, h2, h3⟩ := Cond.arrayClass_spec (args := args) (first := s) (o := none) (s := s) (idx := []) h
  exact ⟨c, fun n z => ⟨(fun k h => by cases h), k, h2, comp, h3⟩, hp c h1⟩
theorem e_arrO {C : String} {args : Array Value} {s : State} (h : (Cond.arrayOver (.object C)).before args s = true) : ∃ c, ArrOfT s c (.object C) ∧ va_RA s c (.object C) := by
  obtain ⟨comp, c, k, h1, -, h3, h4, h5⟩ := Cond.arrayOver_spec (args := args) (first := s) (o := none) (s := s) (idx := []) h
  exact ⟨c, fun n z => ⟨(fun k h => by cases h), k, h3, comp, h4⟩, k, comp, h3, h4, h1, h5⟩
/-- addresses by their numbers -/
def e_ad (kw sA sB tA : List Nat) (b : Nat) : Nat → Nat := fun k => if k < 1000000 then 0 else if k < 2000000 then kw.getD (k - 1000000) 0 else if k < 3000000 then sA.getD (k - 2000000) 0 else if k < 4000000 then sB.getD (k - 3000000) 0 else if k < 5000000 then tA.getD (k - 4000000) 0 else b
section EAD
variable {kw sA sB tA : List Nat} {b : Nat}
theorem e_ad1 {n : Nat} (h : n < 1000000) : e_ad kw sA sB tA b (1000000 + n) = kw.getD n 0 := by
  unfold e_ad
  rw [if_neg (by omega), if_pos (by omega), show 1000000 + n - 1000000 = n by omega]
theorem e_ad2 {n : Nat} (h : n < 1000000) : e_ad kw sA sB tA b (2000000 + n) = sA.getD n 0 := by
  unfold e_ad
  rw [if_neg (by omega), if_neg (by omega), if_pos (by omega), show 2000000 + n - 2000000 = n by omega]
theorem e_ad3 {n : Nat} (h : n < 1000000) : e_ad kw sA sB tA b (3000000 + n) = sB.getD n 0 := by
  unfold e_ad
  rw [if_neg (by omega), if_neg (by omega), if_neg (by omega), if_pos (by omega), show 3000000 + n - 3000000 = n by omega]
theorem e_ad4 {n : Nat} (h : n < 1000000) : e_ad kw sA sB tA b (4000000 + n) = tA.getD n 0 := by
  unfold e_ad
  rw [if_neg (by omega), if_neg (by omega), if_neg (by omega), if_neg (by omega), if_pos (by omega), show 4000000 + n - 4000000 = n by omega]
theorem e_ad5 : e_ad kw sA sB tA b 5000000 = b := by
  unfold e_ad
  rw [if_neg (by omega), if_neg (by omega), if_neg (by omega), if_neg (by omega), if_neg (by omega)]
end EAD
/-- a String constant's object -/
theorem e_strA {args : Array Value} {s : State} {own : String} {idx : Nat} (h : (Cond.exactly (.string own idx) "java/lang/String").before args s = true) : ∃ a, (Term.string own idx).eval args s none [] s = some (.ref a) := by
  obtain ⟨a, c, cell, k, h1, -⟩ := Cond.exactly_spec (args := args) (first := s) (o := none) (s := s) (idx := []) h
  exact ⟨a, h1⟩
def e_vl (own : String) (idx : Nat) : Term := .field (.string own idx) "java/lang/String" "value" "[B"
def e_A (s : State) : Nat → Prop := fun q => s.heap.size ≤ q
theorem e_hA (s : State) : ∀ a : Nat, a < s.heap.size → ¬ e_A s a := fun a h q => Nat.not_le.mpr h q
/-- .. with its bytes -/
theorem e_strB {args : Array Value} {s : State} (h : (Jvm.Cond.and given_1 narrow_1).before args s = true) (own : String) (idx : Nat) (L : List Int32) (i : Nat) (hx : e_L[i]? = some (.exactly (.string own idx) "java/lang/String")) (hc : e_L[i + 1]? = some (.eq (.field (.string own idx) "java/lang/String" "coder" "B") (.int 0))) (ha : e_L[i + 2]? = some (.arrayOf (e_vl own idx) .byte)) (hn : e_L[i + 3]? = some (.eq (.length (e_vl own idx)) (.int (Int32.ofNat L.length)))) (he : ∀ j, j < L.length → e_L[i + 4 + j]? = some (.eq (.elem (e_vl own idx) (.int (Int32.ofNat j))) (.int (L.getD j 0)))) (hl : L.length < 2 ^ 31) :
    ∃ a b, (Term.string own idx).eval args s none [] s = some (.ref a) ∧ va_O "java/lang/String" a (e_A s) s s.heap ∧ va_OF "java/lang/String" "coder" "B" (.int 0) a (e_A s) s s.heap ∧ va_OF "java/lang/String" "value" "[B" (.ref b) a (e_A s) s s.heap ∧ va_T .byte b L.length (fun j => .int (L.getD j 0)) (e_A s) s s.heap := by
  obtain ⟨a, h1⟩ := e_strA (e_wd h hx)
  obtain ⟨b, h2, h3⟩ := va_Tof (f := fun j => .int (L.getD j 0)) hl (e_wd h ha) (va_eqt (e_wd h hn)) (fun j hj => va_eqt (e_wd h (he j hj))) (e_hA s)
  exact ⟨a, b, h1, va_Oof (e_wd h hx) h1 (e_hA s), vk_OFof h1 (va_eqt (e_wd h hc)) (e_hA s), vk_OFof h1 h2 (e_hA s), h3⟩
/-- a constant of the enum -/
theorem e_eqr {args : Array Value} {s : State} {t u : Term} {v : Value} (h : (Cond.eq t u).before args s = true) (hu : u.eval args s none [] s = some v) : t.eval args s none [] s = some v := by
  obtain ⟨y, h1, h2⟩ := Cond.eq_one (first := s) (args := args) (o := none) (s := s) (idx := []) h
  rw [h1, h2.symm.trans hu]
def e_kt (nm : String) : Term := .static RX6 nm "LLampLeaseOffice$Keyword;"
theorem e_kw {args : Array Value} {s : State} (h : (Jvm.Cond.and given_1 narrow_1).before args s = true) (ht : ∀ w ∈ lw_tbl, w.before args s = true) (nm : String) (i n : Nat) (o : Int32) (w1 w2 a1 a2 : Nat) (hl : tables_1[n]? = some (.laysStatic RX6 nm "LLampLeaseOffice$Keyword;")) (hx : e_L[i]? = some (.exactly (e_kt nm) RX6)) (h1 : e_L[i + 1]? = some (.eq (.field (e_kt nm) "java/lang/Enum" "ordinal" "I") (.int o))) (h2 : e_L[i + 2]? = some (.eq (.field (e_kt nm) RX6 "word" "Ljava/lang/String;") (.string RX6 w1))) (h3 : e_L[i + 3]? = some (.eq (.field (e_kt nm) RX6 "widths" "Ljava/lang/String;") (.string RX6 w2))) (z : Int32) (h4 : e_L[i + 4]? = some (.eq (.field (e_kt nm) RX6 "numberIsOptional" "Z") (.int z))) (s1 : (Term.string RX6 w1).eval args s none [] s = some (.ref a1)) (s2 : (Term.string RX6 w2).eval args s none [] s = some (.ref a2)) :
    ∃ k, (e_kt nm).eval args s none [] s = some (.ref k) ∧ va_Z RX6 nm "LLampLeaseOffice$Keyword;" (.ref k) (e_A s) s s.heap ∧ va_O RX6 k (e_A s) s s.heap ∧ va_OF "java/lang/Enum" "ordinal" "I" (.int o) k (e_A s) s s.heap ∧ va_OF RX6 "word" "Ljava/lang/String;" (.ref a1) k (e_A s) s s.heap ∧ va_OF RX6 "widths" "Ljava/lang/String;" (.ref a2) k (e_A s) s s.heap ∧ va_OF RX6 "numberIsOptional" "Z" (.int z) k (e_A s) s s.heap := by
  obtain ⟨k, c, cell, kc, q, -⟩ := Cond.exactly_spec (args := args) (first := s) (o := none) (s := s) (idx := []) (e_wd h hx)
  exact ⟨k, q, va_Zref (e_tb ht hl) (e_tb ht (i := 12) (by decide +kernel)) q (e_hA s), va_Oof (e_wd h hx) q (e_hA s), vk_OFof q (va_eqt (e_wd h h1)) (e_hA s), vk_OFof q (e_eqr (e_wd h h2) s1) (e_hA s), vk_OFof q (e_eqr (e_wd h h3) s2) (e_hA s), vk_OFof q (va_eqt (e_wd h h4)) (e_hA s)⟩
set_option maxRecDepth 100000 in
set_option maxHeartbeats 4000000 in
theorem e_K {args : Array Value} {s : State} (h : ∀ w ∈ lw_tbl, w.before args s = true) : ∃ (D : va_G) (cy : Nat → ClassId), va_K D o_cl (o_tyL.zipIdx.map (fun q => (cy q.2, q.1))) s := by
  obtain ⟨c0, i0, k0⟩ := u_known (C := RX11) (T := TX11) (N := 12) (n := 12) h (e_ws [318, 320, 322, 324, 326, 328, 330, 332, 334, 336, 338, 340] (by decide +kernel)) (e_tb h (i := 41) (by decide +kernel))
  obtain ⟨c1, i1, k1⟩ := u_known (C := RX10) (T := TX10) (N := 7) (n := 7) h (e_ws [165, 167, 169, 171, 173, 175, 177] (by decide +kernel)) (e_tb h (i := 49) (by decide +kernel))
  obtain ⟨c2, i2, k2⟩ := u_known (C := RX9) (T := TX9) (N := 4) (n := 4) h (e_ws [73, 75, 77, 79] (by decide +kernel)) (e_tb h (i := 55) (by decide +kernel))
  obtain ⟨c3, i3, k3⟩ := u_known (C := RX7) (T := TX7) (N := 6) (n := 6) h (e_ws [109, 111, 113, 115, 117, 119] (by decide +kernel)) (e_tb h (i := 84) (by decide +kernel))
  obtain ⟨c4, i4, k4⟩ := u_known (C := RX8) (T := TX8) (N := 3) (n := 3) h (e_ws [138, 140, 142] (by decide +kernel)) (e_tb h (i := 124) (by decide +kernel))
  obtain ⟨c5, i5, k5⟩ := u_known (C := RX5) (T := TX5) (N := 3) (n := 3) h (e_ws [193, 195, 197] (by decide +kernel)) (e_tb h (i := 181) (by decide +kernel))
  obtain ⟨c6, i6, k6⟩ := u_known (C := RX4) (T := TX4) (N := 1) (n := 1) h (e_ws [207] (by decide +kernel)) (e_tb h (i := 201) (by decide +kernel))
  obtain ⟨c7, i7, k7⟩ := u_known (C := RX3) (T := TX3) (N := 4) (n := 4) h (e_ws [220, 222, 224, 226] (by decide +kernel)) (e_tb h (i := 211) (by decide +kernel))
  obtain ⟨c8, i8, k8⟩ := u_known (C := RX2) (T := TX2) (N := 5) (n := 5) h (e_ws [263, 265, 267, 269, 271] (by decide +kernel)) (e_tb h (i := 230) (by decide +kernel))
  obtain ⟨c9, i9, k9⟩ := u_known (C := RX1) (T := TX1) (N := 2) (n := 2) h (e_ws [248, 250] (by decide +kernel)) (e_tb h (i := 237) (by decide +kernel))
  obtain ⟨c10, i10, k10⟩ := u_known (C := "java/lang/String") (T := TJ0) (N := 4) (n := 4) h (e_ws [573, 575, 1291, 1293] (by decide +kernel)) (e_tb h (i := 572) (by decide +kernel))
  obtain ⟨c11, i11, k11⟩ := u_known (C := RJ4) (T := TJ4) (N := 4) (n := 4) h (e_ws [297, 299, 301, 303] (by decide +kernel)) (e_tb h (i := 275) (by decide +kernel))
  obtain ⟨c12, i12, k12⟩ := u_known (C := "java/lang/IndexOutOfBoundsException") (T := o_T0) (N := 0) (n := 6) h (e_ws [] (by decide +kernel)) (e_tb h (i := 363) (by decide +kernel))
  obtain ⟨c13, i13, k13⟩ := u_known (C := "java/lang/IllegalArgumentException") (T := o_T0) (N := 0) (n := 6) h (e_ws [] (by decide +kernel)) (e_tb h (i := 435) (by decide +kernel))
  obtain ⟨c14, i14, k14⟩ := u_known (C := "java/lang/IllegalStateException") (T := o_T0) (N := 0) (n := 6) h (e_ws [] (by decide +kernel)) (e_tb h (i := 451) (by decide +kernel))
  obtain ⟨c15, i15, k15⟩ := u_known (C := "java/util/NoSuchElementException") (T := o_T0) (N := 0) (n := 6) h (e_ws [] (by decide +kernel)) (e_tb h (i := 467) (by decide +kernel))
  obtain ⟨c16, i16, k16⟩ := u_known (C := "java/lang/UnsupportedOperationException") (T := o_T0) (N := 0) (n := 6) h (e_ws [] (by decide +kernel)) (e_tb h (i := 483) (by decide +kernel))
  obtain ⟨c17, i17, k17⟩ := u_known (C := "java/lang/ArithmeticException") (T := o_T0) (N := 0) (n := 6) h (e_ws [] (by decide +kernel)) (e_tb h (i := 864) (by decide +kernel))
  obtain ⟨a0, b0⟩ := e_arr (ty := .int) (e_tb h (i := 82) (by decide +kernel)) (fun c q => q)
  obtain ⟨a1, b1⟩ := e_arr (ty := .boolean) (e_tb h (i := 122) (by decide +kernel)) (fun c q => q)
  obtain ⟨a2, b2⟩ := e_arr (ty := .char) (e_tb h (i := 253) (by decide +kernel)) (fun c q => q)
  obtain ⟨a3, b3⟩ := e_arr (ty := .byte) (e_tb h (i := 306) (by decide +kernel)) (fun c q => q)
  obtain ⟨a4, b4⟩ := e_arr (ty := .long) (e_tb h (i := 1556) (by decide +kernel)) (fun c q => q)
  obtain ⟨a5, b5⟩ := e_arr (ty := .int) (e_tb h (i := 82) (by decide +kernel)) (fun c q => q)
  obtain ⟨a6, b6⟩ := e_arrO (C := RX1) (e_tb h (i := 236) (by decide +kernel))
  obtain ⟨a7, b7⟩ := e_arrO (C := RX10) (e_tb h (i := 187) (by decide +kernel))
  refine ⟨(fun k => ([c0, c1, c2, c3, c4, c5, c6, c7, c8, c9, c10, c11, c12, c13, c14, c15, c16, c17] : List ClassId).getD k 0, fun k => ([i0, i1, i2, i3, i4, i5, i6, i7, i8, i9, i10, i11, i12, i13, i14, i15, i16, i17] : List (Nat → Nat)).getD k (fun _ => 0)), fun k => ([a0, a1, a2, a3, a4, a5, a6, a7] : List ClassId).getD k 0, fun c q hq => ?_, fun k q hq => ?_⟩
  · match c, hq with
    | 0, hq => cases hq; exact k0
    | 1, hq => cases hq; exact k1
    | 2, hq => cases hq; exact k2
    | 3, hq => cases hq; exact k3
    | 4, hq => cases hq; exact k4
    | 5, hq => cases hq; exact k5
    | 6, hq => cases hq; exact k6
    | 7, hq => cases hq; exact k7
    | 8, hq => cases hq; exact k8
    | 9, hq => cases hq; exact k9
    | 10, hq => cases hq; exact k10
    | 11, hq => cases hq; exact k11
    | 12, hq => cases hq; exact k12
    | 13, hq => cases hq; exact k13
    | 14, hq => cases hq; exact k14
    | 15, hq => cases hq; exact k15
    | 16, hq => cases hq; exact k16
    | 17, hq => cases hq; exact k17
    | c + 18, hq => exact absurd hq (by intro z; cases z)
  · match k, hq with
    | 0, hq => cases hq; exact b0
    | 1, hq => cases hq; exact b1
    | 2, hq => cases hq; exact b2
    | 3, hq => cases hq; exact b3
    | 4, hq => cases hq; exact b4
    | 5, hq => cases hq; exact b5
    | 6, hq => cases hq; exact b6
    | 7, hq => cases hq; exact b7
    | k + 8, hq => exact absurd hq (by intro z; cases z)
set_option maxRecDepth 100000 in
set_option maxHeartbeats 4000000 in
theorem e_Ex {args : Array Value} {s : State} {b L : Nat} {xs : Nat → Int32} (h : (Jvm.Cond.and given_1 narrow_1).before args s = true) (ht : ∀ w ∈ lw_tbl, w.before args s = true) (hX : va_X b L xs s s.heap) (hb : b < s.heap.size) : ∃ (Z : o_Z) (ad : Nat → Nat), Z.1 = s.heap.size ∧ (∀ q, ¬ Z.2.2.2.2.2 q) ∧ ad 5000000 = b ∧ o_Ex Z ad s := by
  obtain ⟨D, cy, hK⟩ := e_K ht
  obtain ⟨a6, s6⟩ := e_strA (e_wd h (i := 435) (w := .exactly (.string "LampLeaseOffice" 385) "java/lang/String") (by decide +kernel))
  obtain ⟨a7, s7⟩ := e_strA (e_wd h (i := 468) (w := .exactly (.string "LampLeaseOffice" 387) "java/lang/String") (by decide +kernel))
  obtain ⟨a8, s8⟩ := e_strA (e_wd h (i := 499) (w := .exactly (.string "LampLeaseOffice" 389) "java/lang/String") (by decide +kernel))
  obtain ⟨a9, s9⟩ := e_strA (e_wd h (i := 532) (w := .exactly (.string "LampLeaseOffice" 393) "java/lang/String") (by decide +kernel))
  obtain ⟨a10, s10⟩ := e_strA (e_wd h (i := 558) (w := .exactly (.string "LampLeaseOffice" 396) "java/lang/String") (by decide +kernel))
  obtain ⟨a11, s11⟩ := e_strA (e_wd h (i := 613) (w := .exactly (.string "LampLeaseOffice" 401) "java/lang/String") (by decide +kernel))
  obtain ⟨a12, s12⟩ := e_strA (e_wd h (i := 588) (w := .exactly (.string "LampLeaseOffice" 404) "java/lang/String") (by decide +kernel))
  obtain ⟨a13, s13⟩ := e_strA (e_wd h (i := 638) (w := .exactly (.string "LampLeaseOffice" 408) "java/lang/String") (by decide +kernel))
  obtain ⟨a14, s14⟩ := e_strA (e_wd h (i := 690) (w := .exactly (.string "LampLeaseOffice" 406) "java/lang/String") (by decide +kernel))
  obtain ⟨a15, s15⟩ := e_strA (e_wd h (i := 668) (w := .exactly (.string "LampLeaseOffice" 248) "java/lang/String") (by decide +kernel))
  obtain ⟨a16, s16⟩ := e_strA (e_wd h (i := 719) (w := .exactly (.string "LampLeaseOffice" 256) "java/lang/String") (by decide +kernel))
  obtain ⟨a17, s17⟩ := e_strA (e_wd h (i := 921) (w := .exactly (.string "LampLeaseOffice" 279) "java/lang/String") (by decide +kernel))
  obtain ⟨a18, s18⟩ := e_strA (e_wd h (i := 949) (w := .exactly (.string "LampLeaseOffice" 296) "java/lang/String") (by decide +kernel))
  obtain ⟨a19, s19⟩ := e_strA (e_wd h (i := 974) (w := .exactly (.string "LampLeaseOffice" 315) "java/lang/String") (by decide +kernel))
  obtain ⟨a20, s20⟩ := e_strA (e_wd h (i := 868) (w := .exactly (.string "LampLeaseOffice" 366) "java/lang/String") (by decide +kernel))
  obtain ⟨a21, s21⟩ := e_strA (e_wd h (i := 1038) (w := .exactly (.string "LampLeaseOffice" 373) "java/lang/String") (by decide +kernel))
  obtain ⟨a37, b37, s37, o37, p37, q37, r37⟩ := e_strB h "LampLeaseOffice$Keyword" 56 [115, 104, 105, 112] 1063 (by decide +kernel) (by decide +kernel) (by decide +kernel) (by decide +kernel) (by decide +kernel) (by decide)
  obtain ⟨a38, b38, s38, o38, p38, q38, r38⟩ := e_strB h "LampLeaseOffice$Keyword" 58 [] 1071 (by decide +kernel) (by decide +kernel) (by decide +kernel) (by decide +kernel) (by decide +kernel) (by decide)
  obtain ⟨a39, b39, s39, o39, p39, q39, r39⟩ := e_strB h "LampLeaseOffice$Keyword" 64 [108, 97, 109, 112] 1076 (by decide +kernel) (by decide +kernel) (by decide +kernel) (by decide +kernel) (by decide +kernel) (by decide)
  obtain ⟨a40, b40, s40, o40, p40, q40, r40⟩ := e_strB h "LampLeaseOffice$Keyword" 66 [49] 1084 (by decide +kernel) (by decide +kernel) (by decide +kernel) (by decide +kernel) (by decide +kernel) (by decide)
  obtain ⟨a41, b41, s41, o41, p41, q41, r41⟩ := e_strB h "LampLeaseOffice$Keyword" 69 [111, 105, 108] 1089 (by decide +kernel) (by decide +kernel) (by decide +kernel) (by decide +kernel) (by decide +kernel) (by decide)
  obtain ⟨a42, b42, s42, o42, p42, q42, r42⟩ := e_strB h "LampLeaseOffice$Keyword" 71 [51] 1096 (by decide +kernel) (by decide +kernel) (by decide +kernel) (by decide +kernel) (by decide +kernel) (by decide)
  obtain ⟨a43, b43, s43, o43, p43, q43, r43⟩ := e_strB h "LampLeaseOffice$Keyword" 74 [108, 101, 97, 115, 101] 1101 (by decide +kernel) (by decide +kernel) (by decide +kernel) (by decide +kernel) (by decide +kernel) (by decide)
  obtain ⟨a44, b44, s44, o44, p44, q44, r44⟩ := e_strB h "LampLeaseOffice$Keyword" 76 [49, 49, 50] 1110 (by decide +kernel) (by decide +kernel) (by decide +kernel) (by decide +kernel) (by decide +kernel) (by decide)
  obtain ⟨a45, b45, s45, o45, p45, q45, r45⟩ := e_strB h "LampLeaseOffice$Keyword" 79 [114, 101, 110, 101, 119] 1117 (by decide +kernel) (by decide +kernel) (by decide +kernel) (by decide +kernel) (by decide +kernel) (by decide)
  obtain ⟨a46, b46, s46, o46, p46, q46, r46⟩ := e_strB h "LampLeaseOffice$Keyword" 81 [49, 50] 1126 (by decide +kernel) (by decide +kernel) (by decide +kernel) (by decide +kernel) (by decide +kernel) (by decide)
  obtain ⟨a47, b47, s47, o47, p47, q47, r47⟩ := e_strB h "LampLeaseOffice$Keyword" 84 [100, 114, 111, 112] 1132 (by decide +kernel) (by decide +kernel) (by decide +kernel) (by decide +kernel) (by decide +kernel) (by decide)
  obtain ⟨a48, b48, s48, o48, p48, q48, r48⟩ := e_strB h "LampLeaseOffice$Keyword" 87 [119, 97, 105, 116] 1140 (by decide +kernel) (by decide +kernel) (by decide +kernel) (by decide +kernel) (by decide +kernel) (by decide)
  obtain ⟨a49, b49, s49, o49, p49, q49, r49⟩ := e_strB h "LampLeaseOffice$Keyword" 89 [50] 1148 (by decide +kernel) (by decide +kernel) (by decide +kernel) (by decide +kernel) (by decide +kernel) (by decide)
  obtain ⟨a60, b60, s60, o60, p60, q60, r60⟩ := e_strB h "LampLeaseOfficeLaw" 293 [] 741 (by decide +kernel) (by decide +kernel) (by decide +kernel) (by decide +kernel) (by decide +kernel) (by decide)
  obtain ⟨a61, b61, s61, o61, p61, q61, r61⟩ := e_strB h "LampLeaseOfficeLaw" 302 [32] 745 (by decide +kernel) (by decide +kernel) (by decide +kernel) (by decide +kernel) (by decide +kernel) (by decide)
  obtain ⟨a62, b62, s62, o62, p62, q62, r62⟩ := e_strB h "LampLeaseOfficeLaw" 307 [115] 750 (by decide +kernel) (by decide +kernel) (by decide +kernel) (by decide +kernel) (by decide +kernel) (by decide)
  obtain ⟨a63, b63, s63, o63, p63, q63, r63⟩ := e_strB h "LampLeaseOfficeLaw" 309 [101] 755 (by decide +kernel) (by decide +kernel) (by decide +kernel) (by decide +kernel) (by decide +kernel) (by decide)
  obtain ⟨a64, b64, s64, o64, p64, q64, r64⟩ := e_strB h "LampLeaseOfficeLaw" 319 [114] 767 (by decide +kernel) (by decide +kernel) (by decide +kernel) (by decide +kernel) (by decide +kernel) (by decide)
  obtain ⟨a65, b65, s65, o65, p65, q65, r65⟩ := e_strB h "LampLeaseOfficeLaw" 351 [111, 105, 108, 32] 898 (by decide +kernel) (by decide +kernel) (by decide +kernel) (by decide +kernel) (by decide +kernel) (by decide)
  obtain ⟨a66, b66, s66, o66, p66, q66, r66⟩ := e_strB h "LampLeaseOfficeLaw" 353 [59, 119, 97, 105, 116, 59, 100, 114, 111, 112, 32] 906 (by decide +kernel) (by decide +kernel) (by decide +kernel) (by decide +kernel) (by decide +kernel) (by decide)
  obtain ⟨a67, b67, s67, o67, p67, q67, r67⟩ := e_strB h "LampLeaseOfficeLaw" 359 [119, 97, 105, 116, 32] 994 (by decide +kernel) (by decide +kernel) (by decide +kernel) (by decide +kernel) (by decide +kernel) (by decide)
  obtain ⟨a68, b68, s68, o68, p68, q68, r68⟩ := e_strB h "LampLeaseOfficeLaw" 361 [59, 108, 101, 97, 115, 101, 32] 1003 (by decide +kernel) (by decide +kernel) (by decide +kernel) (by decide +kernel) (by decide +kernel) (by decide)
  obtain ⟨a69, b69, s69, o69, p69, q69, r69⟩ := e_strB h "LampLeaseOfficeLaw" 363 [32, 51, 59, 119, 97, 105, 116, 59, 114, 101, 110, 101, 119, 32] 1014 (by decide +kernel) (by decide +kernel) (by decide +kernel) (by decide +kernel) (by decide +kernel) (by decide)
  obtain ⟨a70, b70, s70, o70, p70, q70, r70⟩ := e_strB h "LampLeaseOfficeLaw" 365 [32, 50] 1032 (by decide +kernel) (by decide +kernel) (by decide +kernel) (by decide +kernel) (by decide +kernel) (by decide)
  obtain ⟨k0, t0, kz0, ko0, kf0, kg0, kh0, ki0⟩ := e_kw h ht "SHIP" 4 243 (nI 0) 56 58 a37 a38 (by decide +kernel) (by decide +kernel) (by decide +kernel) (by decide +kernel) (by decide +kernel) 0 (by decide +kernel) s37 s38
  obtain ⟨k1, t1, kz1, ko1, kf1, kg1, kh1, ki1⟩ := e_kw h ht "LAMP" 244 1600 (nI 1) 64 66 a39 a40 (by decide +kernel) (by decide +kernel) (by decide +kernel) (by decide +kernel) (by decide +kernel) 0 (by decide +kernel) s39 s40
  obtain ⟨k2, t2, kz2, ko2, kf2, kg2, kh2, ki2⟩ := e_kw h ht "OIL" 250 1601 (nI 2) 69 71 a41 a42 (by decide +kernel) (by decide +kernel) (by decide +kernel) (by decide +kernel) (by decide +kernel) 0 (by decide +kernel) s41 s42
  obtain ⟨k3, t3, kz3, ko3, kf3, kg3, kh3, ki3⟩ := e_kw h ht "LEASE" 257 1602 (nI 3) 74 76 a43 a44 (by decide +kernel) (by decide +kernel) (by decide +kernel) (by decide +kernel) (by decide +kernel) 0 (by decide +kernel) s43 s44
  obtain ⟨k4, t4, kz4, ko4, kf4, kg4, kh4, ki4⟩ := e_kw h ht "RENEW" 265 1603 (nI 4) 79 81 a45 a46 (by decide +kernel) (by decide +kernel) (by decide +kernel) (by decide +kernel) (by decide +kernel) 0 (by decide +kernel) s45 s46
  obtain ⟨k5, t5, kz5, ko5, kf5, kg5, kh5, ki5⟩ := e_kw h ht "DROP" 274 1604 (nI 5) 84 66 a47 a40 (by decide +kernel) (by decide +kernel) (by decide +kernel) (by decide +kernel) (by decide +kernel) 0 (by decide +kernel) s47 s40
  obtain ⟨k6, t6, kz6, ko6, kf6, kg6, kh6, ki6⟩ := e_kw h ht "WAIT" 284 1605 (nI 6) 87 89 a48 a49 (by decide +kernel) (by decide +kernel) (by decide +kernel) (by decide +kernel) (by decide +kernel) 1 (by decide +kernel) s48 s49
  obtain ⟨u0, v0, w0⟩ := va_Tof (tm := .static RX11 "KEYWORDS" "[LLampLeaseOffice$Keyword;") (ty := .object RX6) (N := 7) (f := fun j => .ref (([k0, k1, k2, k3, k4, k5, k6] : List Nat).getD j 0)) (A := e_A s) (by decide) (e_wd h (i := 224) (by decide +kernel)) (va_eqt (e_wd h (i := 225) (by decide +kernel))) (fun j hj => by
    rcases (by omega : j = 0 ∨ j = 1 ∨ j = 2 ∨ j = 3 ∨ j = 4 ∨ j = 5 ∨ j = 6) with rfl | rfl | rfl | rfl | rfl | rfl | rfl
    · exact e_eqr (e_wd h (i := 227) (w := .eq (.elem (.static RX11 "KEYWORDS" "[LLampLeaseOffice$Keyword;") (.int (Int32.ofNat 0))) (e_kt "SHIP")) (by decide +kernel)) t0
    · exact e_eqr (e_wd h (i := 228) (w := .eq (.elem (.static RX11 "KEYWORDS" "[LLampLeaseOffice$Keyword;") (.int (Int32.ofNat 1))) (e_kt "LAMP")) (by decide +kernel)) t1
    · exact e_eqr (e_wd h (i := 229) (w := .eq (.elem (.static RX11 "KEYWORDS" "[LLampLeaseOffice$Keyword;") (.int (Int32.ofNat 2))) (e_kt "OIL")) (by decide +kernel)) t2
    · exact e_eqr (e_wd h (i := 230) (w := .eq (.elem (.static RX11 "KEYWORDS" "[LLampLeaseOffice$Keyword;") (.int (Int32.ofNat 3))) (e_kt "LEASE")) (by decide +kernel)) t3
    · exact e_eqr (e_wd h (i := 231) (w := .eq (.elem (.static RX11 "KEYWORDS" "[LLampLeaseOffice$Keyword;") (.int (Int32.ofNat 4))) (e_kt "RENEW")) (by decide +kernel)) t4
    · exact e_eqr (e_wd h (i := 232) (w := .eq (.elem (.static RX11 "KEYWORDS" "[LLampLeaseOffice$Keyword;") (.int (Int32.ofNat 5))) (e_kt "DROP")) (by decide +kernel)) t5
    · exact e_eqr (e_wd h (i := 233) (w := .eq (.elem (.static RX11 "KEYWORDS" "[LLampLeaseOffice$Keyword;") (.int (Int32.ofNat 6))) (e_kt "WAIT")) (by decide +kernel)) t6) (e_hA s)
  have hsw : ∀ j, j < 7 → e_L[237 + j]? = some (.eq (.elem (.static RX0 "$SwitchMap$LampLeaseOffice$Keyword" "[I") (.int (Int32.ofNat j))) (.int (nI (if j = 6 then 0 else j + 1)))) := (by decide +kernel)
  obtain ⟨u1, v1, w1⟩ := va_Tof (tm := .static RX0 "$SwitchMap$LampLeaseOffice$Keyword" "[I") (ty := .int) (N := 7) (f := fun j => .int (nI (if j = 6 then 0 else j + 1))) (A := e_A s) (by decide) (e_wd h (i := 235) (by decide +kernel)) (va_eqt (e_wd h (i := 236) (by decide +kernel))) (fun j hj => va_eqt (e_wd h (hsw j hj))) (e_hA s)
  have hd2 : ∀ j, j < 100 → e_L[19 + j]? = some (.eq (.elem (.static "java/lang/Integer" "DigitOnes" "[B") (.int (Int32.ofNat j))) (.int (nI (48 + j % 10)))) := (by decide +kernel)
  obtain ⟨u2, v2, w2⟩ := va_Tof (tm := .static "java/lang/Integer" "DigitOnes" "[B") (ty := .byte) (N := 100) (f := fun j => .int (nI (48 + j % 10))) (A := e_A s) (by decide) (e_wd h (i := 17) (by decide +kernel)) (va_eqt (e_wd h (i := 18) (by decide +kernel))) (fun j hj => va_eqt (e_wd h (hd2 j hj))) (e_hA s)
  have hd3 : ∀ j, j < 100 → e_L[122 + j]? = some (.eq (.elem (.static "java/lang/Integer" "DigitTens" "[B") (.int (Int32.ofNat j))) (.int (nI (48 + j / 10)))) := (by decide +kernel)
  obtain ⟨u3, v3, w3⟩ := va_Tof (tm := .static "java/lang/Integer" "DigitTens" "[B") (ty := .byte) (N := 100) (f := fun j => .int (nI (48 + j / 10))) (A := e_A s) (by decide) (e_wd h (i := 120) (by decide +kernel)) (va_eqt (e_wd h (i := 121) (by decide +kernel))) (fun j hj => va_eqt (e_wd h (hd3 j hj))) (e_hA s)
  have hf := va_Zqof (A := e_A s) (e_tb ht (i := 1149) (by decide +kernel)) (e_tb ht (i := 31) (by decide +kernel)) (e_wd h (i := 12) (w := .isRef (.static "jdk/internal/util/Preconditions" "SIOOBE_FORMATTER" "Ljava/util/function/BiFunction;")) (by decide +kernel)) (e_hA s)
  obtain ⟨u4, hu4⟩ : ∃ u4, va_Z "jdk/internal/util/Preconditions" "SIOOBE_FORMATTER" "Ljava/util/function/BiFunction;" .null (e_A s) s s.heap ∨ va_Z "jdk/internal/util/Preconditions" "SIOOBE_FORMATTER" "Ljava/util/function/BiFunction;" (.ref u4) (e_A s) s s.heap := by
    rcases hf with q | ⟨u, q⟩
    · exact ⟨0, Or.inl q⟩
    · exact ⟨u, Or.inr q⟩
  obtain ⟨ad, had⟩ : ∃ ad, ad = e_ad [k0, k1, k2, k3, k4, k5, k6] [0, 0, 0, 0, 0, 0, a6, a7, a8, a9, a10, a11, a12, a13, a14, a15, a16, a17, a18, a19, a20, a21, 0, 0, 0, 0, 0, 0, 0, 0, 0, 0, 0, 0, 0, 0, 0, a37, a38, a39, a40, a41, a42, a43, a44, a45, a46, a47, a48, a49, 0, 0, 0, 0, 0, 0, 0, 0, 0, 0, a60, a61, a62, a63, a64, a65, a66, a67, a68, a69, a70] [0, 0, 0, 0, 0, 0, 0, 0, 0, 0, 0, 0, 0, 0, 0, 0, 0, 0, 0, 0, 0, 0, 0, 0, 0, 0, 0, 0, 0, 0, 0, 0, 0, 0, 0, 0, 0, b37, b38, b39, b40, b41, b42, b43, b44, b45, b46, b47, b48, b49, 0, 0, 0, 0, 0, 0, 0, 0, 0, 0, b60, b61, b62, b63, b64, b65, b66, b67, b68, b69, b70] [u0, u1, u2, u3, u4] b := ⟨_, rfl⟩
  have h1 : ∀ n, n < 1000000 → ad (1000000 + n) = ([k0, k1, k2, k3, k4, k5, k6] : List Nat).getD n 0 := fun n hn => by rw [had]; exact e_ad1 hn
  have h2 : ∀ n, n < 1000000 → ad (2000000 + n) = ([0, 0, 0, 0, 0, 0, a6, a7, a8, a9, a10, a11, a12, a13, a14, a15, a16, a17, a18, a19, a20, a21, 0, 0, 0, 0, 0, 0, 0, 0, 0, 0, 0, 0, 0, 0, 0, a37, a38, a39, a40, a41, a42, a43, a44, a45, a46, a47, a48, a49, 0, 0, 0, 0, 0, 0, 0, 0, 0, 0, a60, a61, a62, a63, a64, a65, a66, a67, a68, a69, a70] : List Nat).getD n 0 := fun n hn => by rw [had]; exact e_ad2 hn
  have h3 : ∀ n, n < 1000000 → ad (3000000 + n) = ([0, 0, 0, 0, 0, 0, 0, 0, 0, 0, 0, 0, 0, 0, 0, 0, 0, 0, 0, 0, 0, 0, 0, 0, 0, 0, 0, 0, 0, 0, 0, 0, 0, 0, 0, 0, 0, b37, b38, b39, b40, b41, b42, b43, b44, b45, b46, b47, b48, b49, 0, 0, 0, 0, 0, 0, 0, 0, 0, 0, b60, b61, b62, b63, b64, b65, b66, b67, b68, b69, b70] : List Nat).getD n 0 := fun n hn => by rw [had]; exact e_ad3 hn
  have h4 : ∀ n, n < 1000000 → ad (4000000 + n) = ([u0, u1, u2, u3, u4] : List Nat).getD n 0 := fun n hn => by rw [had]; exact e_ad4 hn
  have h5 : ad 5000000 = b := by rw [had]; exact e_ad5
  have m6 : ad (2000000 + 6) = a6 := h2 6 (by decide)
  have m7 : ad (2000000 + 7) = a7 := h2 7 (by decide)
  have m8 : ad (2000000 + 8) = a8 := h2 8 (by decide)
  have m9 : ad (2000000 + 9) = a9 := h2 9 (by decide)
  have m10 : ad (2000000 + 10) = a10 := h2 10 (by decide)
  have m11 : ad (2000000 + 11) = a11 := h2 11 (by decide)
  have m12 : ad (2000000 + 12) = a12 := h2 12 (by decide)
  have m13 : ad (2000000 + 13) = a13 := h2 13 (by decide)
  have m14 : ad (2000000 + 14) = a14 := h2 14 (by decide)
  have m15 : ad (2000000 + 15) = a15 := h2 15 (by decide)
  have m16 : ad (2000000 + 16) = a16 := h2 16 (by decide)
  have m17 : ad (2000000 + 17) = a17 := h2 17 (by decide)
  have m18 : ad (2000000 + 18) = a18 := h2 18 (by decide)
  have m19 : ad (2000000 + 19) = a19 := h2 19 (by decide)
  have m20 : ad (2000000 + 20) = a20 := h2 20 (by decide)
  have m21 : ad (2000000 + 21) = a21 := h2 21 (by decide)
  have m60 : ad (2000000 + 60) = a60 := h2 60 (by decide)
  have m61 : ad (2000000 + 61) = a61 := h2 61 (by decide)
  have m62 : ad (2000000 + 62) = a62 := h2 62 (by decide)
  have m63 : ad (2000000 + 63) = a63 := h2 63 (by decide)
  have m64 : ad (2000000 + 64) = a64 := h2 64 (by decide)
  have m65 : ad (2000000 + 65) = a65 := h2 65 (by decide)
  have m66 : ad (2000000 + 66) = a66 := h2 66 (by decide)
  have m67 : ad (2000000 + 67) = a67 := h2 67 (by decide)
  have m68 : ad (2000000 + 68) = a68 := h2 68 (by decide)
  have m69 : ad (2000000 + 69) = a69 := h2 69 (by decide)
  have m70 : ad (2000000 + 70) = a70 := h2 70 (by decide)
  have m37 : ad (2000000 + 37) = a37 := h2 37 (by decide)
  have n37 : ad (3000000 + 37) = b37 := h3 37 (by decide)
  have m38 : ad (2000000 + 38) = a38 := h2 38 (by decide)
  have n38 : ad (3000000 + 38) = b38 := h3 38 (by decide)
  have m39 : ad (2000000 + 39) = a39 := h2 39 (by decide)
  have n39 : ad (3000000 + 39) = b39 := h3 39 (by decide)
  have m40 : ad (2000000 + 40) = a40 := h2 40 (by decide)
  have n40 : ad (3000000 + 40) = b40 := h3 40 (by decide)
  have m41 : ad (2000000 + 41) = a41 := h2 41 (by decide)
  have n41 : ad (3000000 + 41) = b41 := h3 41 (by decide)
  have m42 : ad (2000000 + 42) = a42 := h2 42 (by decide)
  have n42 : ad (3000000 + 42) = b42 := h3 42 (by decide)
  have m43 : ad (2000000 + 43) = a43 := h2 43 (by decide)
  have n43 : ad (3000000 + 43) = b43 := h3 43 (by decide)
  have m44 : ad (2000000 + 44) = a44 := h2 44 (by decide)
  have n44 : ad (3000000 + 44) = b44 := h3 44 (by decide)
  have m45 : ad (2000000 + 45) = a45 := h2 45 (by decide)
  have n45 : ad (3000000 + 45) = b45 := h3 45 (by decide)
  have m46 : ad (2000000 + 46) = a46 := h2 46 (by decide)
  have n46 : ad (3000000 + 46) = b46 := h3 46 (by decide)
  have m47 : ad (2000000 + 47) = a47 := h2 47 (by decide)
  have n47 : ad (3000000 + 47) = b47 := h3 47 (by decide)
  have m48 : ad (2000000 + 48) = a48 := h2 48 (by decide)
  have n48 : ad (3000000 + 48) = b48 := h3 48 (by decide)
  have m49 : ad (2000000 + 49) = a49 := h2 49 (by decide)
  have n49 : ad (3000000 + 49) = b49 := h3 49 (by decide)
  have n60 : ad (3000000 + 60) = b60 := h3 60 (by decide)
  have n61 : ad (3000000 + 61) = b61 := h3 61 (by decide)
  have n62 : ad (3000000 + 62) = b62 := h3 62 (by decide)
  have n63 : ad (3000000 + 63) = b63 := h3 63 (by decide)
  have n64 : ad (3000000 + 64) = b64 := h3 64 (by decide)
  have n65 : ad (3000000 + 65) = b65 := h3 65 (by decide)
  have n66 : ad (3000000 + 66) = b66 := h3 66 (by decide)
  have n67 : ad (3000000 + 67) = b67 := h3 67 (by decide)
  have n68 : ad (3000000 + 68) = b68 := h3 68 (by decide)
  have n69 : ad (3000000 + 69) = b69 := h3 69 (by decide)
  have n70 : ad (3000000 + 70) = b70 := h3 70 (by decide)
  have kk0 : ad (1000000 + 0) = k0 := h1 0 (by decide)
  have kk1 : ad (1000000 + 1) = k1 := h1 1 (by decide)
  have kk2 : ad (1000000 + 2) = k2 := h1 2 (by decide)
  have kk3 : ad (1000000 + 3) = k3 := h1 3 (by decide)
  have kk4 : ad (1000000 + 4) = k4 := h1 4 (by decide)
  have kk5 : ad (1000000 + 5) = k5 := h1 5 (by decide)
  have kk6 : ad (1000000 + 6) = k6 := h1 6 (by decide)
  have g0 : ad 4000000 = u0 := h4 0 (by decide)
  have g1 : ad 4000001 = u1 := h4 1 (by decide)
  have g2 : ad 4000002 = u2 := h4 2 (by decide)
  have g3 : ad 4000003 = u3 := h4 3 (by decide)
  have g4 : ad 4000004 = u4 := h4 4 (by decide)
  have e3 : (∀ q ∈ o_nM, va_Nw (.methodLinkNest q.1 q.2.1 q.2.2.1 q.2.2.2) s) ∧ va_Nw o_nF s ∧ (∀ X ∈ o_exs, va_Nw (.castable X X) s) ∧ (∀ q ∈ o_ncs, va_Nc q.1 q.2 s) ∧ ∀ y ∈ o_dcl, va_Nw (.declares y) s := by
    refine ⟨?_, va_Nw.of rfl (e_tb ht (i := 1476) (by decide +kernel)), ?_, ?_, ?_⟩
    · exact (List.forall_mem_cons.mpr ⟨(va_Nw.of rfl (e_tb ht (i := 50) (by decide +kernel))), (List.forall_mem_cons.mpr ⟨(va_Nw.of rfl (e_tb ht (i := 56) (by decide +kernel))), (List.forall_mem_cons.mpr ⟨(va_Nw.of rfl (e_tb ht (i := 85) (by decide +kernel))), (List.forall_mem_cons.mpr ⟨(va_Nw.of rfl (e_tb ht (i := 125) (by decide +kernel))), (List.forall_mem_cons.mpr ⟨(va_Nw.of rfl (e_tb ht (i := 188) (by decide +kernel))), (List.forall_mem_cons.mpr ⟨(va_Nw.of rfl (e_tb ht (i := 202) (by decide +kernel))), (List.forall_mem_cons.mpr ⟨(va_Nw.of rfl (e_tb ht (i := 212) (by decide +kernel))), (List.forall_mem_cons.mpr ⟨(va_Nw.of rfl (e_tb ht (i := 238) (by decide +kernel))), (fun _ h9 => absurd h9 List.not_mem_nil)⟩)⟩)⟩)⟩)⟩)⟩)⟩)⟩)
    · exact (List.forall_mem_cons.mpr ⟨(va_Nw.of rfl (e_tb ht (i := 364) (by decide +kernel))), (List.forall_mem_cons.mpr ⟨(va_Nw.of rfl (e_tb ht (i := 436) (by decide +kernel))), (List.forall_mem_cons.mpr ⟨(va_Nw.of rfl (e_tb ht (i := 452) (by decide +kernel))), (List.forall_mem_cons.mpr ⟨(va_Nw.of rfl (e_tb ht (i := 468) (by decide +kernel))), (List.forall_mem_cons.mpr ⟨(va_Nw.of rfl (e_tb ht (i := 484) (by decide +kernel))), (List.forall_mem_cons.mpr ⟨(va_Nw.of rfl (e_tb ht (i := 865) (by decide +kernel))), (fun _ h9 => absurd h9 List.not_mem_nil)⟩)⟩)⟩)⟩)⟩)⟩)
    · exact (List.forall_mem_cons.mpr ⟨(va_Nc.of (e_wd h (i := 328) (by decide +kernel))), (List.forall_mem_cons.mpr ⟨(va_Nc.of (e_wd h (i := 347) (by decide +kernel))), (List.forall_mem_cons.mpr ⟨(va_Nc.of (e_wd h (i := 348) (by decide +kernel))), (List.forall_mem_cons.mpr ⟨(va_Nc.of (e_wd h (i := 350) (by decide +kernel))), (List.forall_mem_cons.mpr ⟨(va_Nc.of (e_wd h (i := 330) (by decide +kernel))), (List.forall_mem_cons.mpr ⟨(va_Nc.of (e_wd h (i := 310) (by decide +kernel))), (List.forall_mem_cons.mpr ⟨(va_Nc.of (e_wd h (i := 349) (by decide +kernel))), (List.forall_mem_cons.mpr ⟨(va_Nc.of (e_wd h (i := 329) (by decide +kernel))), (List.forall_mem_cons.mpr ⟨(va_Nc.of (e_wd h (i := 387) (by decide +kernel))), (fun _ h9 => absurd h9 List.not_mem_nil)⟩)⟩)⟩)⟩)⟩)⟩)⟩)⟩)⟩)
    · exact (List.forall_mem_cons.mpr ⟨(va_Nw.of rfl (e_tb ht (i := 366) (by decide +kernel))), (List.forall_mem_cons.mpr ⟨(va_Nw.of rfl (e_tb ht (i := 368) (by decide +kernel))), (List.forall_mem_cons.mpr ⟨(va_Nw.of rfl (e_tb ht (i := 370) (by decide +kernel))), (fun _ h9 => absurd h9 List.not_mem_nil)⟩)⟩)⟩)
  have e5 : ∀ q ∈ o_str, vk_R q.1 q.2.1 q.2.2.1 (ad (2000000 + q.2.2.2)) s := by
    exact (List.forall_mem_cons.mpr ⟨(by show vk_R _ _ _ (ad (2000000 + 6)) s; rw [m6]; exact vk_R.of (A := args) (e_tb ht (i := 408) (by decide +kernel)) s6), (List.forall_mem_cons.mpr ⟨(by show vk_R _ _ _ (ad (2000000 + 7)) s; rw [m7]; exact vk_R.of (A := args) (e_tb ht (i := 443) (by decide +kernel)) s7), (List.forall_mem_cons.mpr ⟨(by show vk_R _ _ _ (ad (2000000 + 8)) s; rw [m8]; exact vk_R.of (A := args) (e_tb ht (i := 459) (by decide +kernel)) s8), (List.forall_mem_cons.mpr ⟨(by show vk_R _ _ _ (ad (2000000 + 9)) s; rw [m9]; exact vk_R.of (A := args) (e_tb ht (i := 475) (by decide +kernel)) s9), (List.forall_mem_cons.mpr ⟨(by show vk_R _ _ _ (ad (2000000 + 10)) s; rw [m10]; exact vk_R.of (A := args) (e_tb ht (i := 491) (by decide +kernel)) s10), (List.forall_mem_cons.mpr ⟨(by show vk_R _ _ _ (ad (2000000 + 11)) s; rw [m11]; exact vk_R.of (A := args) (e_tb ht (i := 764) (by decide +kernel)) s11), (List.forall_mem_cons.mpr ⟨(by show vk_R _ _ _ (ad (2000000 + 12)) s; rw [m12]; exact vk_R.of (A := args) (e_tb ht (i := 751) (by decide +kernel)) s12), (List.forall_mem_cons.mpr ⟨(by show vk_R _ _ _ (ad (2000000 + 13)) s; rw [m13]; exact vk_R.of (A := args) (e_tb ht (i := 824) (by decide +kernel)) s13), (List.forall_mem_cons.mpr ⟨(by show vk_R _ _ _ (ad (2000000 + 14)) s; rw [m14]; exact vk_R.of (A := args) (e_tb ht (i := 1062) (by decide +kernel)) s14), (List.forall_mem_cons.mpr ⟨(by show vk_R _ _ _ (ad (2000000 + 15)) s; rw [m15]; exact vk_R.of (A := args) (e_tb ht (i := 872) (by decide +kernel)) s15), (List.forall_mem_cons.mpr ⟨(by show vk_R _ _ _ (ad (2000000 + 16)) s; rw [m16]; exact vk_R.of (A := args) (e_tb ht (i := 1082) (by decide +kernel)) s16), (List.forall_mem_cons.mpr ⟨(by show vk_R _ _ _ (ad (2000000 + 17)) s; rw [m17]; exact vk_R.of (A := args) (e_tb ht (i := 1452) (by decide +kernel)) s17), (List.forall_mem_cons.mpr ⟨(by show vk_R _ _ _ (ad (2000000 + 18)) s; rw [m18]; exact vk_R.of (A := args) (e_tb ht (i := 1505) (by decide +kernel)) s18), (List.forall_mem_cons.mpr ⟨(by show vk_R _ _ _ (ad (2000000 + 19)) s; rw [m19]; exact vk_R.of (A := args) (e_tb ht (i := 1531) (by decide +kernel)) s19), (List.forall_mem_cons.mpr ⟨(by show vk_R _ _ _ (ad (2000000 + 20)) s; rw [m20]; exact vk_R.of (A := args) (e_tb ht (i := 1396) (by decide +kernel)) s20), (List.forall_mem_cons.mpr ⟨(by show vk_R _ _ _ (ad (2000000 + 21)) s; rw [m21]; exact vk_R.of (A := args) (e_tb ht (i := 1551) (by decide +kernel)) s21), (List.forall_mem_cons.mpr ⟨(by show vk_R _ _ _ (ad (2000000 + 60)) s; rw [m60]; exact vk_R.of (A := args) (e_tb ht (i := 1086) (by decide +kernel)) s60), (List.forall_mem_cons.mpr ⟨(by show vk_R _ _ _ (ad (2000000 + 61)) s; rw [m61]; exact vk_R.of (A := args) (e_tb ht (i := 1205) (by decide +kernel)) s61), (List.forall_mem_cons.mpr ⟨(by show vk_R _ _ _ (ad (2000000 + 62)) s; rw [m62]; exact vk_R.of (A := args) (e_tb ht (i := 1231) (by decide +kernel)) s62), (List.forall_mem_cons.mpr ⟨(by show vk_R _ _ _ (ad (2000000 + 63)) s; rw [m63]; exact vk_R.of (A := args) (e_tb ht (i := 1232) (by decide +kernel)) s63), (List.forall_mem_cons.mpr ⟨(by show vk_R _ _ _ (ad (2000000 + 64)) s; rw [m64]; exact vk_R.of (A := args) (e_tb ht (i := 1299) (by decide +kernel)) s64), (List.forall_mem_cons.mpr ⟨(by show vk_R _ _ _ (ad (2000000 + 65)) s; rw [m65]; exact vk_R.of (A := args) (e_tb ht (i := 1440) (by decide +kernel)) s65), (List.forall_mem_cons.mpr ⟨(by show vk_R _ _ _ (ad (2000000 + 66)) s; rw [m66]; exact vk_R.of (A := args) (e_tb ht (i := 1441) (by decide +kernel)) s66), (List.forall_mem_cons.mpr ⟨(by show vk_R _ _ _ (ad (2000000 + 67)) s; rw [m67]; exact vk_R.of (A := args) (e_tb ht (i := 1536) (by decide +kernel)) s67), (List.forall_mem_cons.mpr ⟨(by show vk_R _ _ _ (ad (2000000 + 68)) s; rw [m68]; exact vk_R.of (A := args) (e_tb ht (i := 1537) (by decide +kernel)) s68), (List.forall_mem_cons.mpr ⟨(by show vk_R _ _ _ (ad (2000000 + 69)) s; rw [m69]; exact vk_R.of (A := args) (e_tb ht (i := 1538) (by decide +kernel)) s69), (List.forall_mem_cons.mpr ⟨(by show vk_R _ _ _ (ad (2000000 + 70)) s; rw [m70]; exact vk_R.of (A := args) (e_tb ht (i := 1539) (by decide +kernel)) s70), (fun _ h9 => absurd h9 List.not_mem_nil)⟩)⟩)⟩)⟩)⟩)⟩)⟩)⟩)⟩)⟩)⟩)⟩)⟩)⟩)⟩)⟩)⟩)⟩)⟩)⟩)⟩)⟩)⟩)⟩)⟩)⟩)⟩)
  have e2b : o_E2b (e_A s) ad s s.heap := by
    unfold o_E2b
    exact (List.forall_mem_cons.mpr ⟨(by show va_O _ (ad (2000000 + 37)) _ _ _ ∧ va_OF _ _ _ _ (ad (2000000 + 37)) _ _ _ ∧ va_OF _ _ _ (.ref (ad (3000000 + 37))) (ad (2000000 + 37)) _ _ _ ∧ va_T _ (ad (3000000 + 37)) _ _ _ _ _; rw [m37, n37]; exact ⟨o37, p37, q37, r37⟩), (List.forall_mem_cons.mpr ⟨(by show va_O _ (ad (2000000 + 38)) _ _ _ ∧ va_OF _ _ _ _ (ad (2000000 + 38)) _ _ _ ∧ va_OF _ _ _ (.ref (ad (3000000 + 38))) (ad (2000000 + 38)) _ _ _ ∧ va_T _ (ad (3000000 + 38)) _ _ _ _ _; rw [m38, n38]; exact ⟨o38, p38, q38, r38⟩), (List.forall_mem_cons.mpr ⟨(by show va_O _ (ad (2000000 + 39)) _ _ _ ∧ va_OF _ _ _ _ (ad (2000000 + 39)) _ _ _ ∧ va_OF _ _ _ (.ref (ad (3000000 + 39))) (ad (2000000 + 39)) _ _ _ ∧ va_T _ (ad (3000000 + 39)) _ _ _ _ _; rw [m39, n39]; exact ⟨o39, p39, q39, r39⟩), (List.forall_mem_cons.mpr ⟨(by show va_O _ (ad (2000000 + 40)) _ _ _ ∧ va_OF _ _ _ _ (ad (2000000 + 40)) _ _ _ ∧ va_OF _ _ _ (.ref (ad (3000000 + 40))) (ad (2000000 + 40)) _ _ _ ∧ va_T _ (ad (3000000 + 40)) _ _ _ _ _; rw [m40, n40]; exact ⟨o40, p40, q40, r40⟩), (List.forall_mem_cons.mpr ⟨(by show va_O _ (ad (2000000 + 41)) _ _ _ ∧ va_OF _ _ _ _ (ad (2000000 + 41)) _ _ _ ∧ va_OF _ _ _ (.ref (ad (3000000 + 41))) (ad (2000000 + 41)) _ _ _ ∧ va_T _ (ad (3000000 + 41)) _ _ _ _ _; rw [m41, n41]; exact ⟨o41, p41, q41, r41⟩), (List.forall_mem_cons.mpr ⟨(by show va_O _ (ad (2000000 + 42)) _ _ _ ∧ va_OF _ _ _ _ (ad (2000000 + 42)) _ _ _ ∧ va_OF _ _ _ (.ref (ad (3000000 + 42))) (ad (2000000 + 42)) _ _ _ ∧ va_T _ (ad (3000000 + 42)) _ _ _ _ _; rw [m42, n42]; exact ⟨o42, p42, q42, r42⟩), (List.forall_mem_cons.mpr ⟨(by show va_O _ (ad (2000000 + 43)) _ _ _ ∧ va_OF _ _ _ _ (ad (2000000 + 43)) _ _ _ ∧ va_OF _ _ _ (.ref (ad (3000000 + 43))) (ad (2000000 + 43)) _ _ _ ∧ va_T _ (ad (3000000 + 43)) _ _ _ _ _; rw [m43, n43]; exact ⟨o43, p43, q43, r43⟩), (List.forall_mem_cons.mpr ⟨(by show va_O _ (ad (2000000 + 44)) _ _ _ ∧ va_OF _ _ _ _ (ad (2000000 + 44)) _ _ _ ∧ va_OF _ _ _ (.ref (ad (3000000 + 44))) (ad (2000000 + 44)) _ _ _ ∧ va_T _ (ad (3000000 + 44)) _ _ _ _ _; rw [m44, n44]; exact ⟨o44, p44, q44, r44⟩), (List.forall_mem_cons.mpr ⟨(by show va_O _ (ad (2000000 + 45)) _ _ _ ∧ va_OF _ _ _ _ (ad (2000000 + 45)) _ _ _ ∧ va_OF _ _ _ (.ref (ad (3000000 + 45))) (ad (2000000 + 45)) _ _ _ ∧ va_T _ (ad (3000000 + 45)) _ _ _ _ _; rw [m45, n45]; exact ⟨o45, p45, q45, r45⟩), (List.forall_mem_cons.mpr ⟨(by show va_O _ (ad (2000000 + 46)) _ _ _ ∧ va_OF _ _ _ _ (ad (2000000 + 46)) _ _ _ ∧ va_OF _ _ _ (.ref (ad (3000000 + 46))) (ad (2000000 + 46)) _ _ _ ∧ va_T _ (ad (3000000 + 46)) _ _ _ _ _; rw [m46, n46]; exact ⟨o46, p46, q46, r46⟩), (List.forall_mem_cons.mpr ⟨(by show va_O _ (ad (2000000 + 47)) _ _ _ ∧ va_OF _ _ _ _ (ad (2000000 + 47)) _ _ _ ∧ va_OF _ _ _ (.ref (ad (3000000 + 47))) (ad (2000000 + 47)) _ _ _ ∧ va_T _ (ad (3000000 + 47)) _ _ _ _ _; rw [m47, n47]; exact ⟨o47, p47, q47, r47⟩), (List.forall_mem_cons.mpr ⟨(by show va_O _ (ad (2000000 + 48)) _ _ _ ∧ va_OF _ _ _ _ (ad (2000000 + 48)) _ _ _ ∧ va_OF _ _ _ (.ref (ad (3000000 + 48))) (ad (2000000 + 48)) _ _ _ ∧ va_T _ (ad (3000000 + 48)) _ _ _ _ _; rw [m48, n48]; exact ⟨o48, p48, q48, r48⟩), (List.forall_mem_cons.mpr ⟨(by show va_O _ (ad (2000000 + 49)) _ _ _ ∧ va_OF _ _ _ _ (ad (2000000 + 49)) _ _ _ ∧ va_OF _ _ _ (.ref (ad (3000000 + 49))) (ad (2000000 + 49)) _ _ _ ∧ va_T _ (ad (3000000 + 49)) _ _ _ _ _; rw [m49, n49]; exact ⟨o49, p49, q49, r49⟩), (List.forall_mem_cons.mpr ⟨(by show va_O _ (ad (2000000 + 60)) _ _ _ ∧ va_OF _ _ _ _ (ad (2000000 + 60)) _ _ _ ∧ va_OF _ _ _ (.ref (ad (3000000 + 60))) (ad (2000000 + 60)) _ _ _ ∧ va_T _ (ad (3000000 + 60)) _ _ _ _ _; rw [m60, n60]; exact ⟨o60, p60, q60, r60⟩), (List.forall_mem_cons.mpr ⟨(by show va_O _ (ad (2000000 + 61)) _ _ _ ∧ va_OF _ _ _ _ (ad (2000000 + 61)) _ _ _ ∧ va_OF _ _ _ (.ref (ad (3000000 + 61))) (ad (2000000 + 61)) _ _ _ ∧ va_T _ (ad (3000000 + 61)) _ _ _ _ _; rw [m61, n61]; exact ⟨o61, p61, q61, r61⟩), (List.forall_mem_cons.mpr ⟨(by show va_O _ (ad (2000000 + 62)) _ _ _ ∧ va_OF _ _ _ _ (ad (2000000 + 62)) _ _ _ ∧ va_OF _ _ _ (.ref (ad (3000000 + 62))) (ad (2000000 + 62)) _ _ _ ∧ va_T _ (ad (3000000 + 62)) _ _ _ _ _; rw [m62, n62]; exact ⟨o62, p62, q62, r62⟩), (List.forall_mem_cons.mpr ⟨(by show va_O _ (ad (2000000 + 63)) _ _ _ ∧ va_OF _ _ _ _ (ad (2000000 + 63)) _ _ _ ∧ va_OF _ _ _ (.ref (ad (3000000 + 63))) (ad (2000000 + 63)) _ _ _ ∧ va_T _ (ad (3000000 + 63)) _ _ _ _ _; rw [m63, n63]; exact ⟨o63, p63, q63, r63⟩), (List.forall_mem_cons.mpr ⟨(by show va_O _ (ad (2000000 + 64)) _ _ _ ∧ va_OF _ _ _ _ (ad (2000000 + 64)) _ _ _ ∧ va_OF _ _ _ (.ref (ad (3000000 + 64))) (ad (2000000 + 64)) _ _ _ ∧ va_T _ (ad (3000000 + 64)) _ _ _ _ _; rw [m64, n64]; exact ⟨o64, p64, q64, r64⟩), (List.forall_mem_cons.mpr ⟨(by show va_O _ (ad (2000000 + 65)) _ _ _ ∧ va_OF _ _ _ _ (ad (2000000 + 65)) _ _ _ ∧ va_OF _ _ _ (.ref (ad (3000000 + 65))) (ad (2000000 + 65)) _ _ _ ∧ va_T _ (ad (3000000 + 65)) _ _ _ _ _; rw [m65, n65]; exact ⟨o65, p65, q65, r65⟩), (List.forall_mem_cons.mpr ⟨(by show va_O _ (ad (2000000 + 66)) _ _ _ ∧ va_OF _ _ _ _ (ad (2000000 + 66)) _ _ _ ∧ va_OF _ _ _ (.ref (ad (3000000 + 66))) (ad (2000000 + 66)) _ _ _ ∧ va_T _ (ad (3000000 + 66)) _ _ _ _ _; rw [m66, n66]; exact ⟨o66, p66, q66, r66⟩), (List.forall_mem_cons.mpr ⟨(by show va_O _ (ad (2000000 + 67)) _ _ _ ∧ va_OF _ _ _ _ (ad (2000000 + 67)) _ _ _ ∧ va_OF _ _ _ (.ref (ad (3000000 + 67))) (ad (2000000 + 67)) _ _ _ ∧ va_T _ (ad (3000000 + 67)) _ _ _ _ _; rw [m67, n67]; exact ⟨o67, p67, q67, r67⟩), (List.forall_mem_cons.mpr ⟨(by show va_O _ (ad (2000000 + 68)) _ _ _ ∧ va_OF _ _ _ _ (ad (2000000 + 68)) _ _ _ ∧ va_OF _ _ _ (.ref (ad (3000000 + 68))) (ad (2000000 + 68)) _ _ _ ∧ va_T _ (ad (3000000 + 68)) _ _ _ _ _; rw [m68, n68]; exact ⟨o68, p68, q68, r68⟩), (List.forall_mem_cons.mpr ⟨(by show va_O _ (ad (2000000 + 69)) _ _ _ ∧ va_OF _ _ _ _ (ad (2000000 + 69)) _ _ _ ∧ va_OF _ _ _ (.ref (ad (3000000 + 69))) (ad (2000000 + 69)) _ _ _ ∧ va_T _ (ad (3000000 + 69)) _ _ _ _ _; rw [m69, n69]; exact ⟨o69, p69, q69, r69⟩), (List.forall_mem_cons.mpr ⟨(by show va_O _ (ad (2000000 + 70)) _ _ _ ∧ va_OF _ _ _ _ (ad (2000000 + 70)) _ _ _ ∧ va_OF _ _ _ (.ref (ad (3000000 + 70))) (ad (2000000 + 70)) _ _ _ ∧ va_T _ (ad (3000000 + 70)) _ _ _ _ _; rw [m70, n70]; exact ⟨o70, p70, q70, r70⟩), (fun _ h9 => absurd h9 List.not_mem_nil)⟩)⟩)⟩)⟩)⟩)⟩)⟩)⟩)⟩)⟩)⟩)⟩)⟩)⟩)⟩)⟩)⟩)⟩)⟩)⟩)⟩)⟩)⟩)⟩)
  have e2c : o_E2c (e_A s) ad s s.heap := by
    intro i q hq
    match i, hq with
    | 0, hq =>
      cases hq
      show va_Z _ _ _ (.ref (ad (1000000 + 0))) _ _ _ ∧ va_O _ (ad (1000000 + 0)) _ _ _ ∧ va_OF _ _ _ _ (ad (1000000 + 0)) _ _ _ ∧ va_OF _ _ _ (.ref (ad (2000000 + 37))) (ad (1000000 + 0)) _ _ _ ∧ va_OF _ _ _ (.ref (ad (2000000 + 38))) (ad (1000000 + 0)) _ _ _ ∧ va_OF _ _ _ _ (ad (1000000 + 0)) _ _ _
      rw [kk0, m37, m38]
      exact ⟨kz0, ko0, kf0, kg0, kh0, ki0⟩
    | 1, hq =>
      cases hq
      show va_Z _ _ _ (.ref (ad (1000000 + 1))) _ _ _ ∧ va_O _ (ad (1000000 + 1)) _ _ _ ∧ va_OF _ _ _ _ (ad (1000000 + 1)) _ _ _ ∧ va_OF _ _ _ (.ref (ad (2000000 + 39))) (ad (1000000 + 1)) _ _ _ ∧ va_OF _ _ _ (.ref (ad (2000000 + 40))) (ad (1000000 + 1)) _ _ _ ∧ va_OF _ _ _ _ (ad (1000000 + 1)) _ _ _
      rw [kk1, m39, m40]
      exact ⟨kz1, ko1, kf1, kg1, kh1, ki1⟩
    | 2, hq =>
      cases hq
      show va_Z _ _ _ (.ref (ad (1000000 + 2))) _ _ _ ∧ va_O _ (ad (1000000 + 2)) _ _ _ ∧ va_OF _ _ _ _ (ad (1000000 + 2)) _ _ _ ∧ va_OF _ _ _ (.ref (ad (2000000 + 41))) (ad (1000000 + 2)) _ _ _ ∧ va_OF _ _ _ (.ref (ad (2000000 + 42))) (ad (1000000 + 2)) _ _ _ ∧ va_OF _ _ _ _ (ad (1000000 + 2)) _ _ _
      rw [kk2, m41, m42]
      exact ⟨kz2, ko2, kf2, kg2, kh2, ki2⟩
    | 3, hq =>
      cases hq
      show va_Z _ _ _ (.ref (ad (1000000 + 3))) _ _ _ ∧ va_O _ (ad (1000000 + 3)) _ _ _ ∧ va_OF _ _ _ _ (ad (1000000 + 3)) _ _ _ ∧ va_OF _ _ _ (.ref (ad (2000000 + 43))) (ad (1000000 + 3)) _ _ _ ∧ va_OF _ _ _ (.ref (ad (2000000 + 44))) (ad (1000000 + 3)) _ _ _ ∧ va_OF _ _ _ _ (ad (1000000 + 3)) _ _ _
      rw [kk3, m43, m44]
      exact ⟨kz3, ko3, kf3, kg3, kh3, ki3⟩
    | 4, hq =>
      cases hq
      show va_Z _ _ _ (.ref (ad (1000000 + 4))) _ _ _ ∧ va_O _ (ad (1000000 + 4)) _ _ _ ∧ va_OF _ _ _ _ (ad (1000000 + 4)) _ _ _ ∧ va_OF _ _ _ (.ref (ad (2000000 + 45))) (ad (1000000 + 4)) _ _ _ ∧ va_OF _ _ _ (.ref (ad (2000000 + 46))) (ad (1000000 + 4)) _ _ _ ∧ va_OF _ _ _ _ (ad (1000000 + 4)) _ _ _
      rw [kk4, m45, m46]
      exact ⟨kz4, ko4, kf4, kg4, kh4, ki4⟩
    | 5, hq =>
      cases hq
      show va_Z _ _ _ (.ref (ad (1000000 + 5))) _ _ _ ∧ va_O _ (ad (1000000 + 5)) _ _ _ ∧ va_OF _ _ _ _ (ad (1000000 + 5)) _ _ _ ∧ va_OF _ _ _ (.ref (ad (2000000 + 47))) (ad (1000000 + 5)) _ _ _ ∧ va_OF _ _ _ (.ref (ad (2000000 + 40))) (ad (1000000 + 5)) _ _ _ ∧ va_OF _ _ _ _ (ad (1000000 + 5)) _ _ _
      rw [kk5, m47, m40]
      exact ⟨kz5, ko5, kf5, kg5, kh5, ki5⟩
    | 6, hq =>
      cases hq
      show va_Z _ _ _ (.ref (ad (1000000 + 6))) _ _ _ ∧ va_O _ (ad (1000000 + 6)) _ _ _ ∧ va_OF _ _ _ _ (ad (1000000 + 6)) _ _ _ ∧ va_OF _ _ _ (.ref (ad (2000000 + 48))) (ad (1000000 + 6)) _ _ _ ∧ va_OF _ _ _ (.ref (ad (2000000 + 49))) (ad (1000000 + 6)) _ _ _ ∧ va_OF _ _ _ _ (ad (1000000 + 6)) _ _ _
      rw [kk6, m48, m49]
      exact ⟨kz6, ko6, kf6, kg6, kh6, ki6⟩
    | i + 7, hq => exact absurd hq (by intro z; cases z)
  have e2d : o_E2d (e_A s) ad s s.heap := by
    unfold o_E2d
    rw [g0, g1, g2, g3, g4]
    refine ⟨va_Zref (e_tb ht (i := 1477) (by decide +kernel)) (e_tb ht (i := 1) (by decide +kernel)) v0 (e_hA s), ?_, va_Zref (e_tb ht (i := 1512) (by decide +kernel)) (e_tb ht (i := 36) (by decide +kernel)) v1 (e_hA s), w1, va_Zref (e_tb ht (i := 1220) (by decide +kernel)) (e_tb ht (i := 34) (by decide +kernel)) v2 (e_hA s), w2, va_Zref (e_tb ht (i := 1222) (by decide +kernel)) (e_tb ht (i := 34) (by decide +kernel)) v3 (e_hA s), w3, hu4⟩
    obtain ⟨cell, z1, z2, z3, z4, z5, z6, z7⟩ := w0
    refine ⟨cell, z1, z2, z3, z4, z5, fun j hj => ?_, z7⟩
    rw [z6 j hj]
    show some (Value.ref _) = some (Value.ref (ad (1000000 + j)))
    rw [h1 j (by omega)]
  have e2a : o_E2a (e_A s) s s.heap := ⟨vx_Zqof (e_tb ht (i := 389) (by decide +kernel)) (e_tb ht (i := 17) (by decide +kernel)) (e_wd h (i := 10) (by decide +kernel)) (e_hA s), vx_Zqof (e_tb ht (i := 391) (by decide +kernel)) (e_tb ht (i := 17) (by decide +kernel)) (e_wd h (i := 11) (by decide +kernel)) (e_hA s), va_Zof (e_tb ht (i := 284) (by decide +kernel)) (e_tb ht (i := 15) (by decide +kernel)) (va_eqi (e_wd h (i := 9) (by decide +kernel))) (e_hA s)⟩
  refine ⟨(s.heap.size, D, cy, L, xs, fun _ => False), ad, rfl, fun _ z => z, h5, ⟨Nat.le_refl _, fun q hq => ⟨hq, fun z => z⟩⟩, hK, e3, e5, o_E2.narrow (A := e_A s) ⟨e2a, e2b, e2c, e2d⟩ (fun q h9 => h9.1), by rw [h5]; exact hX, by rw [h5]; exact hb, ?_, va_Nw.of rfl (e_tb ht (i := 1125) (by decide +kernel))⟩
  exact (List.forall_mem_cons.mpr ⟨(va_AO.of (A := args) (e_tb ht (i := 187) (by decide +kernel))), (List.forall_mem_cons.mpr ⟨(va_AO.of (A := args) (e_tb ht (i := 236) (by decide +kernel))), (fun _ h9 => absurd h9 List.not_mem_nil)⟩)⟩)
