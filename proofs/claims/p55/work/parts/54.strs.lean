/-! constant texts: length, charAt; the enum's ordinal -/
def o_wt (num : Nat) (w : List Int) : Prop := (num, w.map o_I) ∈ o_sv ∧ (∀ c ∈ w, 0 ≤ c ∧ c < 128) ∧ w.length ≤ 10
theorem z_sv {num : Nat} {w : List Int} (h : o_wt num w) (Z : o_Z) (ad : Nat → Nat) (s : State) (E : o_Ex Z ad s) : va_O "java/lang/String" (ad (2000000 + num)) (o_A Z) s s.heap ∧ va_OF "java/lang/String" "coder" "B" (.int (o_I 0)) (ad (2000000 + num)) (o_A Z) s s.heap ∧ va_OF "java/lang/String" "value" "[B" (.ref (ad (3000000 + num))) (ad (2000000 + num)) (o_A Z) s s.heap ∧ va_T .byte (ad (3000000 + num)) w.length (fun j => .int (o_I (w.getD j 0))) (o_A Z) s s.heap := by
  obtain ⟨h1, h2, h3, h4⟩ := E.2.2.2.2.1.2.1 _ h.1
  refine ⟨h1, h2, h3, ?_⟩
  have e : (fun j => Value.int ((w.map o_I).getD j 0)) = fun j => Value.int (o_I (w.getD j 0)) := by
    funext j
    congr 1
    rw [List.getD_eq_getElem?_getD, List.getD_eq_getElem?_getD, List.getElem?_map]
    cases w[j]? with
    | none => rfl
    | some x => rfl
  rw [List.length_map] at h4
  rw [← e]
  exact h4
theorem o_getD_mem {w : List Int} {j : Nat} (hj : j < w.length) : w.getD j 0 ∈ w := by
  rw [List.getD_eq_getElem?_getD, List.getElem?_eq_getElem hj]
  exact List.getElem_mem _
theorem z_kw {i : Nat} {q : String × Nat × Nat × Int32} (h : o_kw[i]? = some q) (Z : o_Z) (ad : Nat → Nat) (s : State) (E : o_Ex Z ad s) : va_Z RX6 q.1 "LLampLeaseOffice$Keyword;" (.ref (ad (1000000 + i))) (o_A Z) s s.heap ∧ va_O RX6 (ad (1000000 + i)) (o_A Z) s s.heap ∧ va_OF "java/lang/Enum" "ordinal" "I" (.int (nI i)) (ad (1000000 + i)) (o_A Z) s s.heap ∧ va_OF RX6 "word" "Ljava/lang/String;" (.ref (ad (2000000 + q.2.1))) (ad (1000000 + i)) (o_A Z) s s.heap ∧ va_OF RX6 "widths" "Ljava/lang/String;" (.ref (ad (2000000 + q.2.2.1))) (ad (1000000 + i)) (o_A Z) s s.heap ∧ va_OF RX6 "numberIsOptional" "Z" (.int q.2.2.2) (ad (1000000 + i)) (o_A Z) s s.heap := E.2.2.2.2.1.2.2.1 i q h
theorem z_fm (Z : o_Z) (ad : Nat → Nat) (s : State) (E : o_Ex Z ad s) : va_Z "jdk/internal/util/Preconditions" "SIOOBE_FORMATTER" "Ljava/util/function/BiFunction;" .null (o_A Z) s s.heap ∨ va_Z "jdk/internal/util/Preconditions" "SIOOBE_FORMATTER" "Ljava/util/function/BiFunction;" (.ref (ad 4000004)) (o_A Z) s s.heap := E.2.2.2.2.1.2.2.2.2.2.2.2.2.2.2.2
set_option maxRecDepth 100000 in
set_option maxHeartbeats 4000000 in
/-- isLatin1 -/
theorem ct_J0_isLatin1_aae02 {l : Launch} (hl : l.stackTraces = false) (d : Nat) (n : Nat) (h : Nat → o_C) (num : Nat) (w : List Int) (hq : o_wt num w) : o_Ct l yJ0_isLatin1_aae02 wJ0_isLatin1_aae02 (d + 1) o_no [.ref (2000000 + num)] n (h) 0 0 (o_is (some (.int (o_I 1))) n h) := by
  refine o_Ct.ofV hl mJ0_isLatin1_aae02 (by decide +kernel) rfl rfl rfl (Nat.le_of_ble_eq_true rfl) ?_
  refine o_gs dJ0_isLatin1_aae02_0 (o_gT (i := 1170) (by decide +kernel) rfl) z_C ?_
  refine o_if_eq (tgt := 17) dJ0_isLatin1_aae02_3 (by decide) ⟨by omega, by omega⟩ (fun c_3 => ?_) (fun c_3 => ?_)
  · skip
    exfalso
    omega
  · skip
    refine o_aload_n dJ0_isLatin1_aae02_6 rfl ?_
    refine o_gfC (v := .int (o_I 0)) dJ0_isLatin1_aae02_7 (o_gT (i := 1290) (by decide +kernel) rfl) (fun Z ad s E => (z_sv hq Z ad s E).2.1) ?_
    refine o_if_ne (tgt := 17) dJ0_isLatin1_aae02_10 (by decide) ⟨by omega, by omega⟩ (fun c_10 => ?_) (fun c_10 => ?_)
    · skip
      exfalso
      omega
    · skip
      refine o_iconst dJ0_isLatin1_aae02_13 ?_
      refine o_goto (tgt := 18) dJ0_isLatin1_aae02_14 (by decide) ?_
      refine o_ret1 dJ0_isLatin1_aae02_18 (by first | exact o_rb0 | exact o_rb1 | exact o_bn _) ?_
      exact ⟨rfl, rfl, rfl⟩
set_option maxRecDepth 100000 in
set_option maxHeartbeats 4000000 in
/-- coder -/
theorem ct_J0_coder_7d493 {l : Launch} (hl : l.stackTraces = false) (d : Nat) (n : Nat) (h : Nat → o_C) (num : Nat) (w : List Int) (hq : o_wt num w) : o_Ct l yJ0_coder_7d493 wJ0_coder_7d493 (d + 1) o_no [.ref (2000000 + num)] n (h) 0 0 (o_is (some (.int (o_I 0))) n h) := by
  refine o_Ct.ofV hl mJ0_coder_7d493 (by decide +kernel) rfl rfl rfl (Nat.le_of_ble_eq_true rfl) ?_
  refine o_gs dJ0_coder_7d493_0 (o_gT (i := 1170) (by decide +kernel) rfl) z_C ?_
  refine o_if_eq (tgt := 13) dJ0_coder_7d493_3 (by decide) ⟨by omega, by omega⟩ (fun c_3 => ?_) (fun c_3 => ?_)
  · skip
    exfalso
    omega
  · skip
    refine o_aload_n dJ0_coder_7d493_6 rfl ?_
    refine o_gfC (v := .int (o_I 0)) dJ0_coder_7d493_7 (o_gT (i := 1290) (by decide +kernel) rfl) (fun Z ad s E => (z_sv hq Z ad s E).2.1) ?_
    refine o_goto (tgt := 14) dJ0_coder_7d493_10 (by decide) ?_
    refine o_ret1 dJ0_coder_7d493_14 (show narrow .byte (.int (o_I 0)) = .int (o_I 0) by decide +kernel) ?_
    exact ⟨rfl, rfl, rfl⟩
set_option maxRecDepth 100000 in
set_option maxHeartbeats 4000000 in
/-- length -/
theorem ct_J0_length_8abf5 {l : Launch} (hl : l.stackTraces = false) (d : Nat) (n : Nat) (h : Nat → o_C) (num : Nat) (w : List Int) (hq : o_wt num w) : o_Ct l yJ0_length_8abf5 wJ0_length_8abf5 (d + 2) o_no [.ref (2000000 + num)] n (h) 0 0 (o_is (some (.int (o_I (w.length : Int)))) n h) := by
  refine o_Ct.ofV hl mJ0_length_8abf5 (by decide +kernel) rfl rfl rfl (Nat.le_of_ble_eq_true rfl) ?_
  refine o_aload_n dJ0_length_8abf5_0 rfl ?_
  refine o_gfC (v := .ref (3000000 + num)) dJ0_length_8abf5_1 (o_gT (i := 1289) (by decide +kernel) rfl) (fun Z ad s E => (z_sv hq Z ad s E).2.2.1) ?_
  refine o_tlC dJ0_length_8abf5_4 (fun Z ad s E => (z_sv hq Z ad s E).2.2.2) ?_
  refine o_aload_n dJ0_length_8abf5_5 rfl ?_
  refine o_cG RJ0 _ (ct_J0_coder_7d493 hl d n h num w hq) dJ0_length_8abf5_6 ml_J0_335 yw_J0_coder_7d493 rfl (by decide) (by omega) (o_recC (fun Z ad s E => (z_sv hq Z ad s E).1)) rfl (Nat.le_of_ble_eq_true rfl) ?_
  refine o_ishr dJ0_length_8abf5_9 ?_
  rw [o_shr0]
  refine o_ret1 dJ0_length_8abf5_10 trivial ?_
  exact ⟨rfl, rfl, rfl⟩
set_option maxRecDepth 100000 in
set_option maxHeartbeats 4000000 in
/-- checkIndex(i, k) -/
theorem ct_J3_checkIndex_8e157A {l : Launch} (hl : l.stackTraces = false) (d : Nat) (n : Nat) (h : Nat → o_C) (i k : Int) (hi : 0 ≤ i ∧ i < k) (hk : k ≤ 1000000) : o_Ct l yJ3_checkIndex_8e157 wJ3_checkIndex_8e157 (d + 1) o_no [.int (o_I i), .int (o_I k), .null] n (h) 0 0 (o_is (some (.int (o_I i))) n h) := by
  refine o_Ct.ofV hl mJ3_checkIndex_8e157 (by decide +kernel) rfl rfl rfl (Nat.le_of_ble_eq_true rfl) ?_
  refine o_iload_n dJ3_checkIndex_8e157_0 rfl ?_
  refine o_if_lt (tgt := 9) dJ3_checkIndex_8e157_1 (by decide) ⟨by omega, by omega⟩ (fun c_1 => ?_) (fun c_1 => ?_)
  · skip
    exfalso
    omega
  · skip
    refine o_iload_n dJ3_checkIndex_8e157_4 rfl ?_
    refine o_iload_n dJ3_checkIndex_8e157_5 rfl ?_
    refine o_icmp_lt (tgt := 16) dJ3_checkIndex_8e157_6 (by decide) ⟨by omega, by omega⟩ ⟨by omega, by omega⟩ (fun c_6 => ?_) (fun c_6 => ?_)
    · skip
      refine o_iload_n dJ3_checkIndex_8e157_16 rfl ?_
      refine o_ret1 dJ3_checkIndex_8e157_17 trivial ?_
      exact ⟨rfl, rfl, rfl⟩
    · skip
      exfalso
      omega
set_option maxRecDepth 100000 in
set_option maxHeartbeats 4000000 in
/-- checkIndex(i, k) -/
theorem ct_J3_checkIndex_8e157B {l : Launch} (hl : l.stackTraces = false) (d : Nat) (n : Nat) (h : Nat → o_C) (i k : Int) (hi : 0 ≤ i ∧ i < k) (hk : k ≤ 1000000) : o_Ct l yJ3_checkIndex_8e157 wJ3_checkIndex_8e157 (d + 1) o_no [.int (o_I i), .int (o_I k), .ref 4000004] n (h) 0 0 (o_is (some (.int (o_I i))) n h) := by
  refine o_Ct.ofV hl mJ3_checkIndex_8e157 (by decide +kernel) rfl rfl rfl (Nat.le_of_ble_eq_true rfl) ?_
  refine o_iload_n dJ3_checkIndex_8e157_0 rfl ?_
  refine o_if_lt (tgt := 9) dJ3_checkIndex_8e157_1 (by decide) ⟨by omega, by omega⟩ (fun c_1 => ?_) (fun c_1 => ?_)
  · skip
    exfalso
    omega
  · skip
    refine o_iload_n dJ3_checkIndex_8e157_4 rfl ?_
    refine o_iload_n dJ3_checkIndex_8e157_5 rfl ?_
    refine o_icmp_lt (tgt := 16) dJ3_checkIndex_8e157_6 (by decide) ⟨by omega, by omega⟩ ⟨by omega, by omega⟩ (fun c_6 => ?_) (fun c_6 => ?_)
    · skip
      refine o_iload_n dJ3_checkIndex_8e157_16 rfl ?_
      refine o_ret1 dJ3_checkIndex_8e157_17 trivial ?_
      exact ⟨rfl, rfl, rfl⟩
    · skip
      exfalso
      omega
set_option maxRecDepth 100000 in
set_option maxHeartbeats 4000000 in
/-- checkIndex(i, k) -/
theorem ct_J0_checkIndex_df160 {l : Launch} (hl : l.stackTraces = false) (d : Nat) (n : Nat) (h : Nat → o_C) (i k : Int) (hi : 0 ≤ i ∧ i < k) (hk : k ≤ 1000000) : o_Ct l yJ0_checkIndex_df160 wJ0_checkIndex_df160 (d + 2) o_no [.int (o_I i), .int (o_I k)] n (h) 0 0 (o_is none n h) := by
  refine o_Ct.ofV hl mJ0_checkIndex_df160 (by decide +kernel) rfl rfl rfl (Nat.le_of_ble_eq_true rfl) ?_
  refine o_iload_n dJ0_checkIndex_df160_0 rfl ?_
  refine o_iload_n dJ0_checkIndex_df160_1 rfl ?_
  refine o_gsP (q0 := 4000004) dJ0_checkIndex_df160_2 (o_gT (i := 1148) (by decide +kernel) rfl) (fun Z ad s E => z_fm Z ad s E) ?_ ?_
  · refine o_cS _ (ct_J3_checkIndex_8e157A hl d n h i k hi hk) dJ0_checkIndex_df160_5 ml_J0_1059 ys_J3_checkIndex_8e157 rfl (by decide) (by omega) rfl (Nat.le_of_ble_eq_true rfl) ?_
    refine o_pop dJ0_checkIndex_df160_8 rfl ?_
    refine o_ret0 dJ0_checkIndex_df160_9 trivial ?_
    exact ⟨rfl, rfl, rfl⟩
  · refine o_cS _ (ct_J3_checkIndex_8e157B hl d n h i k hi hk) dJ0_checkIndex_df160_5 ml_J0_1059 ys_J3_checkIndex_8e157 rfl (by decide) (by omega) rfl (Nat.le_of_ble_eq_true rfl) ?_
    refine o_pop dJ0_checkIndex_df160_8 rfl ?_
    refine o_ret0 dJ0_checkIndex_df160_9 trivial ?_
    exact ⟨rfl, rfl, rfl⟩
set_option maxRecDepth 100000 in
set_option maxHeartbeats 4000000 in
/-- charAt(bytes, i) -/
theorem ct_J1_charAt_3b067 {l : Launch} (hl : l.stackTraces = false) (d : Nat) (n : Nat) (h : Nat → o_C) (num : Nat) (w : List Int) (hq : o_wt num w) (i : Int) (hi : 0 ≤ i ∧ i < w.length) : o_Ct l yJ1_charAt_3b067 wJ1_charAt_3b067 (d + 3) o_no [.ref (3000000 + num), .int (o_I i)] n (h) 0 0 (o_is (some (.int (o_I (w.getD i.toNat 0)))) n h) := by
  refine o_Ct.ofV hl mJ1_charAt_3b067 (by decide +kernel) rfl rfl rfl (Nat.le_of_ble_eq_true rfl) ?_
  have hw9 := hq.2.2
  have hcc := hq.2.1 _ (o_getD_mem (w := w) (j := i.toNat) (by omega))
  refine o_iload_n dJ1_charAt_3b067_0 rfl ?_
  refine o_aload_n dJ1_charAt_3b067_1 rfl ?_
  refine o_tlC dJ1_charAt_3b067_2 (fun Z ad s E => (z_sv hq Z ad s E).2.2.2) ?_
  refine o_cS _ (ct_J0_checkIndex_df160 hl d n h i w.length hi (by omega)) dJ1_charAt_3b067_3 ml_J1_9 ys_J0_checkIndex_df160 rfl (by decide) (by omega) rfl (Nat.le_of_ble_eq_true rfl) ?_
  refine o_aload_n dJ1_charAt_3b067_6 rfl ?_
  refine o_iload_n dJ1_charAt_3b067_7 rfl ?_
  refine o_tbC (z := o_I (w.getD i.toNat 0)) dJ1_charAt_3b067_8 (fun Z ad s E => (z_sv hq Z ad s E).2.2.2) hi.1 hi.2 (by omega) rfl ?_
  refine o_sipush dJ1_charAt_3b067_9 (by decide) ?_
  refine o_iand dJ1_charAt_3b067_12 ?_
  rw [o_an (w.getD i.toNat 0) (hq.2.1 _ (o_getD_mem (w := w) (j := i.toNat) (by omega))).1 (hq.2.1 _ (o_getD_mem (w := w) (j := i.toNat) (by omega))).2]
  refine o_i2c dJ1_charAt_3b067_13 ?_
  rw [o_i2cN (w.getD i.toNat 0) (hq.2.1 _ (o_getD_mem (w := w) (j := i.toNat) (by omega))).1 (hq.2.1 _ (o_getD_mem (w := w) (j := i.toNat) (by omega))).2]
  refine o_ret1 dJ1_charAt_3b067_14 (o_rcN _ (by omega) (by omega)) ?_
  exact ⟨rfl, rfl, rfl⟩
set_option maxRecDepth 100000 in
set_option maxHeartbeats 4000000 in
/-- charAt(i) -/
theorem ct_J0_charAt_5068e {l : Launch} (hl : l.stackTraces = false) (d : Nat) (n : Nat) (h : Nat → o_C) (num : Nat) (w : List Int) (hq : o_wt num w) (i : Int) (hi : 0 ≤ i ∧ i < w.length) : o_Ct l yJ0_charAt_5068e wJ0_charAt_5068e (d + 5) o_no [.ref (2000000 + num), .int (o_I i)] n (h) 0 0 (o_is (some (.int (o_I (w.getD i.toNat 0)))) n h) := by
  refine o_Ct.ofV hl mJ0_charAt_5068e (by decide +kernel) rfl rfl rfl (Nat.le_of_ble_eq_true rfl) ?_
  have hcc := hq.2.1 _ (o_getD_mem (w := w) (j := i.toNat) (by omega))
  refine o_aload_n dJ0_charAt_5068e_0 rfl ?_
  refine o_cG RJ0 _ (ct_J0_isLatin1_aae02 hl (d + 3) n h num w hq) dJ0_charAt_5068e_1 ml_J0_492 yw_J0_isLatin1_aae02 rfl (by decide) (by omega) (o_recC (fun Z ad s E => (z_sv hq Z ad s E).1)) rfl (Nat.le_of_ble_eq_true rfl) ?_
  refine o_if_eq (tgt := 16) dJ0_charAt_5068e_4 (by decide) ⟨by omega, by omega⟩ (fun c_4 => ?_) (fun c_4 => ?_)
  · skip
    exfalso
    omega
  · skip
    refine o_aload_n dJ0_charAt_5068e_7 rfl ?_
    refine o_gfC (v := .ref (3000000 + num)) dJ0_charAt_5068e_8 (o_gT (i := 1289) (by decide +kernel) rfl) (fun Z ad s E => (z_sv hq Z ad s E).2.2.1) ?_
    refine o_iload_n dJ0_charAt_5068e_11 rfl ?_
    refine o_cS _ (ct_J1_charAt_3b067 hl d n h num w hq i hi) dJ0_charAt_5068e_12 ml_J0_495 ys_J1_charAt_3b067 rfl (by decide) (by omega) rfl (Nat.le_of_ble_eq_true rfl) ?_
    refine o_ret1 dJ0_charAt_5068e_15 (o_rcN _ (by omega) (by omega)) ?_
    exact ⟨rfl, rfl, rfl⟩
set_option maxRecDepth 100000 in
set_option maxHeartbeats 4000000 in
/-- ordinal -/
theorem ct_Jx29ce0_ordinal_8abf5 {l : Launch} (hl : l.stackTraces = false) (d : Nat) (n : Nat) (h : Nat → o_C) (i : Nat) (hi : i < 7) : o_Ct l yJx29ce0_ordinal_8abf5 wJx29ce0_ordinal_8abf5 (d + 1) o_no [.ref (1000000 + i)] n (h) 0 0 (o_is (some (.int (o_I (i : Int)))) n h) := by
  refine o_Ct.ofV hl mJx29ce0_ordinal_8abf5 (by decide +kernel) rfl rfl rfl (Nat.le_of_ble_eq_true rfl) ?_
  refine o_aload_n dJx29ce0_ordinal_8abf5_0 rfl ?_
  refine o_gfC (o := "java/lang/Enum") (n9 := "ordinal") (d9 := "I") (v := .int (o_I (i : Int))) dJx29ce0_ordinal_8abf5_1 (o_gT (i := 1597) (by decide +kernel) rfl) (fun Z ad s E => by
    obtain ⟨q, hq⟩ : ∃ q, o_kw[i]? = some q := ⟨_, List.getElem?_eq_getElem (show i < o_kw.length from hi)⟩
    have := (z_kw hq Z ad s E).2.2.1
    rw [o_nI] at this
    exact this) ?_
  refine o_ret1 dJx29ce0_ordinal_8abf5_4 trivial ?_
  exact ⟨rfl, rfl, rfl⟩
