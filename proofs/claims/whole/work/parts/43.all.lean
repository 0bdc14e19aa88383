/-! the reference, whole -/
theorem sr_cpy {f f' : Nat → Int} {M : Nat → Nat → Int} (h : o_sr f M) (hw : o_wk M) (e : ∀ j, j < 81 → f' j = f j) : o_sr f' M := by
  obtain ⟨⟨a0, a1, a2, a3, a4, a5, a6⟩, hS, hL, hQ⟩ := h
  have b0 := hw.1.2.1
  have b1 := hw.2.1.2.1
  have b6 := hw.2.2.1.2.1
  refine ⟨⟨by rw [e 0 (by decide)]; exact a0, by rw [e 1 (by decide)]; exact a1, by rw [e 2 (by decide)]; exact a2, by rw [e 3 (by decide)]; exact a3, by rw [e 4 (by decide)]; exact a4, by rw [e 5 (by decide)]; exact a5, by rw [e 6 (by decide)]; exact a6⟩, fun i hi => ?_, fun i hi => ?_, fun i hi => ?_⟩
  · rw [e _ (by omega), e _ (by omega), e _ (by omega)]; exact hS i hi
  · rw [e _ (by omega), e _ (by omega), e _ (by omega), e _ (by omega), e _ (by omega)]; exact hL i hi
  · rw [e _ (by omega), e _ (by omega)]; exact hQ i hi
def r_m2 (g : Nat → Nat → Int) (P : List (Nat → Nat → Int)) : Prop := g 192 6 = P.length ∧ P.length ≤ 8 ∧ ∀ k M, P[k]? = some M → o_wk M ∧ o_sr (fun j => g 197 (81 * k + j)) M
def r_m3 (g : Nat → Nat → Int) (S : Option (Nat → Nat → Int)) : Prop := g 192 4 = o_b (S.isSome = true) ∧ ∀ M, S = some M → o_wk M ∧ o_sr (g 196) M
def r_m4 (g T : Nat → Nat → Int) : Prop := g 192 11 = T 0 0 ∧ (∀ j : Nat, (j : Int) < T 0 0 → g 199 j = T 1 j) ∧ g 192 9 = T 0 1 ∧ (∀ j : Nat, (j : Int) < T 0 1 → g 198 j = T 2 j) ∧ g 192 14 = T 0 2 ∧ g 192 15 = T 0 3 ∧ g 192 16 = T 0 4
def o_md (g M : Nat → Nat → Int) (P : List (Nat → Nat → Int)) (S : Option (Nat → Nat → Int)) (T : Nat → Nat → Int) : Prop := o_sr (g 193) M ∧ r_m2 g P ∧ r_m3 g S ∧ r_m4 g T
def r_m9 : Nat → Prop := fun a => 192 ≤ a ∧ a ≤ 200
theorem r_m2_c {g g' : Nat → Nat → Int} {P : List (Nat → Nat → Int)} (h : r_m2 g P) (h6 : g' 192 6 = g 192 6) (h7 : g' 197 = g 197) : r_m2 g' P := ⟨h6.trans h.1, h.2.1, fun k M hk => by rw [h7]; exact h.2.2 k M hk⟩
theorem r_m3_c {g g' : Nat → Nat → Int} {S : Option (Nat → Nat → Int)} (h : r_m3 g S) (h6 : g' 192 4 = g 192 4) (h7 : g' 196 = g 196) : r_m3 g' S := ⟨h6.trans h.1, fun M hM => by rw [h7]; exact h.2 M hM⟩
theorem r_m4_c {g g' T : Nat → Nat → Int} (h : r_m4 g T) (e : ∀ j, j = 9 ∨ j = 11 ∨ j = 14 ∨ j = 15 ∨ j = 16 → g' 192 j = g 192 j) (h8 : g' 198 = g 198) (h9 : g' 199 = g 199) : r_m4 g' T := by
  obtain ⟨a1, a2, a3, a4, a5, a6, a7⟩ := h
  refine ⟨by rw [e 11 (by simp)]; exact a1, by rw [h9]; exact a2, by rw [e 9 (by simp)]; exact a3, by rw [h8]; exact a4, by rw [e 14 (by simp)]; exact a5, by rw [e 15 (by simp)]; exact a6, by rw [e 16 (by simp)]; exact a7⟩
/-- a question leaves all as it was -/
theorem o_md_q {g g' M : Nat → Nat → Int} {P : List (Nat → Nat → Int)} {S : Option (Nat → Nat → Int)} {T : Nat → Nat → Int} {t : Int} (h : o_md g M P S T) (e : g' = o_e g 192 7 t) : o_md g' M P S T ∧ o_fr r_m9 g g' ∧ g' 192 7 = t := by
  subst e
  refine ⟨⟨?_, r_m2_c h.2.1 (o_e_k (by decide)) (o_e_n (by decide)), r_m3_c h.2.2.1 (o_e_k (by decide)) (o_e_n (by decide)), r_m4_c h.2.2.2 (fun j hj => o_e_k (by omega)) (o_e_n (by decide)) (o_e_n (by decide))⟩, o_fr_e o_fr_r ⟨by decide, by decide⟩, o_e_s⟩
  rw [o_e_n (by decide)]; exact h.1
/-- all of the reference but its row of numbers and the place of an exception is as it was -/
def o_mk (g g' : Nat → Nat → Int) : Prop := o_fr (fun a => 192 ≤ a ∧ a ≤ 195) g g' ∧ ∀ j, j ≠ 7 → g' 192 j = g 192 j
theorem o_md_k {g g' M M' : Nat → Nat → Int} {P : List (Nat → Nat → Int)} {S : Option (Nat → Nat → Int)} {T : Nat → Nat → Int} (h : o_md g M P S T) (hs : o_sr (g' 193) M') (e : o_mk g g') : o_md g' M' P S T ∧ o_fr r_m9 g g' :=
  ⟨⟨hs, r_m2_c h.2.1 (e.2 6 (by decide)) (e.1 197 (by omega)), r_m3_c h.2.2.1 (e.2 4 (by decide)) (e.1 196 (by omega)), r_m4_c h.2.2.2 (fun j hj => e.2 j (by omega)) (e.1 198 (by omega)) (e.1 199 (by omega))⟩, o_fr_m e.1 (fun a ha => ⟨ha.1, by omega⟩)⟩
set_option maxRecDepth 100000 in
set_option maxHeartbeats 4000000 in
/-- keep() -/
theorem ct_X12_keep {l : Launch} (hl : l.stackTraces = false) (d : Nat) (g : Nat → Nat → Int) : o_Ct l yX12_keep wX12_keep (d + 1) o_no [.ref 192] o_N (o_mem g) 0 0 (o_mt (none) (fun g' => g' = o_cp (o_e g 192 7 0) 193 194 0 0 81)) := by
  refine o_Ct.ofV hl mX12_keep (by decide +kernel) rfl rfl rfl (Nat.le_of_ble_eq_true rfl) ?_
  refine o_aload_n dX12_keep_0 rfl ?_
  refine o_iconst dX12_keep_1 ?_
  refine o_pmE dX12_keep_2 fp_X12_42 rfl (by decide) (Nat.le_of_ble_eq_true rfl) rfl rfl (fun _ => rfl) (by decide) (fun g_2 e_2 => ?_)
  refine o_aload_n dX12_keep_5 rfl ?_
  refine o_gf dX12_keep_6 fl_X12_9 rfl (by decide) rfl ?_
  refine o_iconst dX12_keep_9 ?_
  refine o_aload_n dX12_keep_10 rfl ?_
  refine o_gf dX12_keep_11 fl_X12_13 rfl (by decide) rfl ?_
  refine o_iconst dX12_keep_14 ?_
  refine o_bipush dX12_keep_15 (by decide) ?_
  refine o_cpE (sp := 0) (dp := 0) (m0 := 81) dX12_keep_17 ml_X12_45 (by decide) (by decide) rfl rfl (by decide) (by decide) (by first | rfl | omega) (by first | rfl | omega) (by first | rfl | omega) (by omega) (by omega) (Nat.le_of_ble_eq_true rfl) (fun _ => rfl) (by decide) (fun g_17 e_17 => ?_)
  refine o_ret0 dX12_keep_20 trivial ?_
  exact o_mt0 (by rw [e_17, e_2])
set_option maxRecDepth 100000 in
set_option maxHeartbeats 4000000 in
/-- ends(v), an exception is due -/
theorem ct_X12_endsF {l : Launch} (hl : l.stackTraces = false) (d : Nat) (g : Nat → Nat → Int) (v : Int) (h7 : 0 < g 192 7) (h7R : o_R (g 192 7)) : o_Ct l yX12_ends wX12_ends (d + 1) o_no [.ref 192, .int (o_I v)] o_N (o_mem g) 0 0 (o_mt (some (.int (o_I (0)))) (fun g' => g' = o_cp g 194 193 0 0 81)) := by
  refine o_Ct.ofV hl mX12_ends (by decide +kernel) rfl rfl rfl (Nat.le_of_ble_eq_true rfl) ?_
  obtain ⟨h7a, h7b⟩ := h7R
  refine o_aload_n dX12_ends_0 rfl ?_
  refine o_gf dX12_ends_1 fl_X12_42 rfl (by decide) rfl ?_
  refine o_if_le (tgt := 24) dX12_ends_4 (by decide) ⟨by omega, by omega⟩ (fun c_4 => ?_) (fun c_4 => ?_)
  · skip
    exfalso
    omega
  · skip
    refine o_aload_n dX12_ends_7 rfl ?_
    refine o_gf dX12_ends_8 fl_X12_13 rfl (by decide) rfl ?_
    refine o_iconst dX12_ends_11 ?_
    refine o_aload_n dX12_ends_12 rfl ?_
    refine o_gf dX12_ends_13 fl_X12_9 rfl (by decide) rfl ?_
    refine o_iconst dX12_ends_16 ?_
    refine o_bipush dX12_ends_17 (by decide) ?_
    refine o_cpE (sp := 0) (dp := 0) (m0 := 81) dX12_ends_19 ml_X12_45 (by decide) (by decide) rfl rfl (by decide) (by decide) (by first | rfl | omega) (by first | rfl | omega) (by first | rfl | omega) (by omega) (by omega) (Nat.le_of_ble_eq_true rfl) (fun _ => rfl) (by decide) (fun g_19 e_19 => ?_)
    refine o_iconst dX12_ends_22 ?_
    refine o_ret1 dX12_ends_23 trivial ?_
    exact o_mtI rfl e_19
set_option maxRecDepth 100000 in
set_option maxHeartbeats 4000000 in
/-- ends(v), recorded -/
theorem ct_X12_endsY {l : Launch} (hl : l.stackTraces = false) (d : Nat) (g B : Nat → Nat → Int) (P : List (Nat → Nat → Int)) (v : Int) (h7 : g 192 7 = 0) (hP : r_m2 g P) (hwB : o_wk B) (hB : o_sr (g 194) B) : o_Ct l yX12_ends wX12_ends (d + 1) o_no [.ref 192, .int (o_I v)] o_N (o_mem g) 0 0 (o_mt (some (.int (o_I (v)))) (fun g' => r_m2 g' (h_push P B) ∧ (∀ a, a ≠ 192 → a ≠ 197 → g' a = g a) ∧ ∀ j, j ≠ 6 → g' 192 j = g 192 j)) := by
  refine o_Ct.ofV hl mX12_ends (by decide +kernel) rfl rfl rfl (Nat.le_of_ble_eq_true rfl) ?_
  obtain ⟨h1, h2, h3⟩ := id hP
  refine o_aload_n dX12_ends_0 rfl ?_
  refine o_gf dX12_ends_1 fl_X12_42 rfl (by decide) rfl ?_
  refine o_if_le (tgt := 24) dX12_ends_4 (by decide) ⟨by omega, by omega⟩ (fun c_4 => ?_) (fun c_4 => ?_)
  · skip
    refine o_aload_n dX12_ends_24 rfl ?_
    refine o_gf dX12_ends_25 fl_X12_51 rfl (by decide) rfl ?_
    refine o_bipush dX12_ends_28 (by decide) ?_
    refine o_icmp_ne (tgt := 60) dX12_ends_30 (by decide) ⟨by omega, by omega⟩ ⟨by omega, by omega⟩ (fun c_30 => ?_) (fun c_30 => ?_)
    · skip
      have hlt : P.length < 8 := by omega
      refine o_aload_n dX12_ends_60 rfl ?_
      refine o_gf dX12_ends_61 fl_X12_13 rfl (by decide) rfl ?_
      refine o_iconst dX12_ends_64 ?_
      refine o_aload_n dX12_ends_65 rfl ?_
      refine o_gf dX12_ends_66 fl_X12_22 rfl (by decide) rfl ?_
      refine o_bipush dX12_ends_69 (by decide) ?_
      refine o_aload_n dX12_ends_71 rfl ?_
      refine o_gf dX12_ends_72 fl_X12_51 rfl (by decide) rfl ?_
      refine o_imul dX12_ends_75 ?_
      refine o_bipush dX12_ends_76 (by decide) ?_
      refine o_cpE (sp := 0) (dp := (81 * P.length)) (m0 := 81) dX12_ends_78 ml_X12_45 (by decide) (by decide) rfl rfl (by decide) (by decide) (by first | rfl | omega) (by first | rfl | omega) (by first | rfl | omega) (by omega) (by omega) (Nat.le_of_ble_eq_true rfl) (fun _ => rfl) (by decide) (fun g_78 e_78 => ?_)
      refine o_aload_n dX12_ends_81 rfl ?_
      refine o_dup dX12_ends_82 rfl ?_
      refine o_gf dX12_ends_83 fl_X12_51 rfl (by decide) rfl ?_
      refine o_iconst dX12_ends_86 ?_
      refine o_iadd dX12_ends_87 ?_
      refine o_pmE dX12_ends_88 fp_X12_51 rfl (by decide) (Nat.le_of_ble_eq_true rfl) rfl rfl (fun _ => rfl) (by decide) (fun g_88 e_88 => ?_)
      refine o_iload_n dX12_ends_91 rfl ?_
      refine o_ret1 dX12_ends_92 trivial ?_
      refine o_mtI rfl ⟨⟨?_, ?_, fun k M' hk => ?_⟩, fun a ha hb => ?_, fun j hj => ?_⟩
      · rw [e_88, o_e_s, e_78, o_cp_n (by decide), h1]
        simp only [h_push, if_pos hlt, List.length_append, List.length_singleton]
        omega
      · simp only [h_push, if_pos hlt, List.length_append, List.length_singleton]
        omega
      · simp only [h_push, if_pos hlt] at hk
        rcases Nat.lt_or_ge k P.length with q | q
        · rw [List.getElem?_append_left q] at hk
          have t := h3 k M' hk
          refine ⟨t.1, sr_cpy t.2 t.1 (fun j hj => ?_)⟩
          show g_88 197 (81 * k + j) = g 197 (81 * k + j)
          rw [e_88, o_e_n (by decide), e_78]
          unfold o_cp
          rw [if_neg (by omega)]
        · have q3 : k = P.length := by
            rcases Nat.lt_or_ge P.length k with q2 | q2
            · rw [List.getElem?_eq_none (by simp; omega)] at hk; cases hk
            · omega
          subst q3
          rw [List.getElem?_append_right (Nat.le_refl _), Nat.sub_self] at hk
          cases hk
          refine ⟨hwB, sr_cpy hB hwB (fun j hj => ?_)⟩
          show g_88 197 (81 * P.length + j) = g 194 j
          rw [e_88, o_e_n (by decide), e_78]
          unfold o_cp
          rw [if_pos ⟨rfl, by omega, by omega⟩]
          congr 1; omega
      · rw [e_88, o_e_n (by omega), e_78, o_cp_n (by omega)]
      · rw [e_88, o_e_k (by omega), e_78, o_cp_n (by decide)]
    · skip
      refine o_aload_n dX12_ends_33 rfl ?_
      refine o_gf dX12_ends_34 fl_X12_22 rfl (by decide) rfl ?_
      refine o_bipush dX12_ends_37 (by decide) ?_
      refine o_aload_n dX12_ends_39 rfl ?_
      refine o_gf dX12_ends_40 fl_X12_22 rfl (by decide) rfl ?_
      refine o_iconst dX12_ends_43 ?_
      refine o_sipush dX12_ends_44 (by decide) ?_
      refine o_cpE (sp := 81) (dp := 0) (m0 := 567) dX12_ends_47 ml_X12_45 (by decide) (by decide) rfl rfl (by decide) (by decide) (by first | rfl | omega) (by first | rfl | omega) (by first | rfl | omega) (by omega) (by omega) (Nat.le_of_ble_eq_true rfl) (fun _ => rfl) (by decide) (fun g_47 e_47 => ?_)
      refine o_aload_n dX12_ends_50 rfl ?_
      refine o_dup dX12_ends_51 rfl ?_
      refine o_gf dX12_ends_52 fl_X12_51 rfl (by decide) rfl ?_
      refine o_iconst dX12_ends_55 ?_
      refine o_isub dX12_ends_56 ?_
      refine o_pmE dX12_ends_57 fp_X12_51 rfl (by decide) (Nat.le_of_ble_eq_true rfl) rfl rfl (fun _ => rfl) (by decide) (fun g_57 e_57 => ?_)
      have hlt : ¬ P.length < 8 := by omega
      have v57 : g_57 192 6 = 7 := by rw [e_57, o_e_s, e_47, o_cp_n (by decide)]; omega
      refine o_aload_n dX12_ends_60 rfl ?_
      refine o_gf dX12_ends_61 fl_X12_13 rfl (by decide) rfl ?_
      refine o_iconst dX12_ends_64 ?_
      refine o_aload_n dX12_ends_65 rfl ?_
      refine o_gf dX12_ends_66 fl_X12_22 rfl (by decide) rfl ?_
      refine o_bipush dX12_ends_69 (by decide) ?_
      refine o_aload_n dX12_ends_71 rfl ?_
      refine o_gf dX12_ends_72 fl_X12_51 rfl (by decide) rfl ?_
      refine o_imul dX12_ends_75 ?_
      refine o_bipush dX12_ends_76 (by decide) ?_
      refine o_cpE (sp := 0) (dp := 567) (m0 := 81) dX12_ends_78 ml_X12_45 (by decide) (by decide) rfl rfl (by decide) (by decide) (by first | rfl | omega) (by first | rfl | omega) (by first | rfl | omega) (by omega) (by omega) (Nat.le_of_ble_eq_true rfl) (fun _ => rfl) (by decide) (fun g_78 e_78 => ?_)
      refine o_aload_n dX12_ends_81 rfl ?_
      refine o_dup dX12_ends_82 rfl ?_
      refine o_gf dX12_ends_83 fl_X12_51 rfl (by decide) rfl ?_
      refine o_iconst dX12_ends_86 ?_
      refine o_iadd dX12_ends_87 ?_
      refine o_pmE dX12_ends_88 fp_X12_51 rfl (by decide) (Nat.le_of_ble_eq_true rfl) rfl rfl (fun _ => rfl) (by decide) (fun g_88 e_88 => ?_)
      refine o_iload_n dX12_ends_91 rfl ?_
      refine o_ret1 dX12_ends_92 trivial ?_
      refine o_mtI rfl ⟨⟨?_, ?_, fun k M' hk => ?_⟩, fun a ha hb => ?_, fun j hj => ?_⟩
      · rw [e_88, o_e_s, e_78, o_cp_n (by decide), e_57, o_e_s, e_47, o_cp_n (by decide), h1]
        simp only [h_push, if_neg hlt, List.length_append, List.length_singleton, List.length_tail]
        omega
      · simp only [h_push, if_neg hlt, List.length_append, List.length_singleton, List.length_tail]
        omega
      · simp only [h_push, if_neg hlt] at hk
        have E : ∀ x, x < 648 → g_88 197 x = if x < 567 then g 197 (x + 81) else g 194 (x - 567) := by
          intro x hx
          rw [e_88, o_e_n (by decide), e_78]
          unfold o_cp
          by_cases c : x < 567
          · rw [if_neg (by omega), if_pos c, e_57, o_e_n (by decide), e_47]
            unfold o_cp
            rw [if_pos ⟨rfl, by omega, by omega⟩]
            congr 1; omega
          · rw [if_pos ⟨rfl, by omega, by omega⟩, if_neg c, e_57, o_e_n (by decide), e_47, o_cp_n (by decide)]
            congr 1; omega
        rcases Nat.lt_or_ge k P.tail.length with q | q
        · rw [List.getElem?_append_left q, List.getElem?_tail] at hk
          rw [List.length_tail] at q
          have t := h3 (k + 1) M' hk
          refine ⟨t.1, sr_cpy t.2 t.1 (fun j hj => ?_)⟩
          show g_88 197 (81 * k + j) = g 197 (81 * (k + 1) + j)
          rw [E _ (by omega), if_pos (by omega)]
          congr 1; omega
        · have q3 : k = P.tail.length := by
            rcases Nat.lt_or_ge P.tail.length k with q2 | q2
            · rw [List.getElem?_eq_none (by simp at q2 ⊢; omega)] at hk; cases hk
            · omega
          subst q3
          rw [List.getElem?_append_right (Nat.le_refl _), Nat.sub_self] at hk
          cases hk
          refine ⟨hwB, sr_cpy hB hwB (fun j hj => ?_)⟩
          show g_88 197 (81 * P.tail.length + j) = g 194 j
          rw [List.length_tail, E _ (by omega), if_neg (by omega)]
          congr 1; omega
      · rw [e_88, o_e_n (by omega), e_78, o_cp_n (by omega), e_57, o_e_n (by omega), e_47, o_cp_n (by omega)]
      · rw [e_88, o_e_k (by omega), e_78, o_cp_n (by decide), e_57, o_e_k (by omega), e_47, o_cp_n (by decide)]
  · skip
    exfalso
    omega
