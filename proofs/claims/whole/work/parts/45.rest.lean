theorem r_xq {t v z : Int} {M : Nat → Nat → Int} {P : List (Nat → Nat → Int)} {S : Option (Nat → Nat → Int)} {T g g' : Nat → Nat → Int} (h : o_md g M P S T) (ht : v = z) (e : g' = o_e g 192 7 t) : r_x t v M P S T g (.inl (some (.int (o_I z)))) o_N (o_mem g') := r_xI ht ⟨(o_md_q h e).2.2, (o_md_q h e).1, (o_md_q h e).2.1⟩
set_option maxRecDepth 100000 in
set_option maxHeartbeats 4000000 in
/-- undo(), nothing to undo -/
theorem ct_X12_undoN {l : Launch} (hl : l.stackTraces = false) (d : Nat) (g M : Nat → Nat → Int) (S : Option (Nat → Nat → Int)) (T : Nat → Nat → Int) (hmd : o_md g M [] S T) (hwk : o_wk M) : o_Ct l yX12_undo wX12_undo (d + 1) o_no [.ref 192] o_N (o_mem g) 0 0 (r_x 1 0 M [] S T g) := by
  refine o_Ct.ofV hl mX12_undo (by decide +kernel) rfl rfl rfl (Nat.le_of_ble_eq_true rfl) ?_
  have h6 : g 192 6 = 0 := hmd.2.1.1
  refine o_aload_n dX12_undo_0 rfl ?_
  refine o_aload_n dX12_undo_1 rfl ?_
  refine o_gf dX12_undo_2 fl_X12_51 rfl (by decide) rfl ?_
  refine o_if_ne (tgt := 12) dX12_undo_5 (by decide) ⟨by omega, by omega⟩ (fun c_5 => ?_) (fun c_5 => ?_)
  · skip
    exfalso
    omega
  · skip
    refine o_iconst dX12_undo_8 ?_
    refine o_goto (tgt := 13) dX12_undo_9 (by decide) ?_
    refine o_pmE dX12_undo_13 fp_X12_42 rfl (by decide) (Nat.le_of_ble_eq_true rfl) rfl rfl (fun _ => rfl) (by decide) (fun g_13 e_13 => ?_)
    refine o_aload_n dX12_undo_16 rfl ?_
    refine o_gf dX12_undo_17 fl_X12_42 rfl (by decide) rfl ?_
    rw [show g_13 192 7 = 1 by rw [e_13, o_e_s]]
    refine o_if_le (tgt := 25) dX12_undo_20 (by decide) ⟨by omega, by omega⟩ (fun c => absurd c (by decide)) (fun _ => ?_)
    refine o_iconst dX12_undo_23 ?_
    refine o_ret1 dX12_undo_24 trivial ?_
    exact r_xq hmd rfl e_13
set_option maxRecDepth 100000 in
set_option maxHeartbeats 4000000 in
/-- undo() -/
theorem ct_X12_undoY {l : Launch} (hl : l.stackTraces = false) (d : Nat) (g M : Nat → Nat → Int) (P : List (Nat → Nat → Int)) (B : Nat → Nat → Int) (S : Option (Nat → Nat → Int)) (T : Nat → Nat → Int) (hmd : o_md g M (P ++ [B]) S T) (hwk : o_wk M) : o_Ct l yX12_undo wX12_undo (d + 1) o_no [.ref 192] o_N (o_mem g) 0 0 (r_x 0 P.length B P S T g) := by
  refine o_Ct.ofV hl mX12_undo (by decide +kernel) rfl rfl rfl (Nat.le_of_ble_eq_true rfl) ?_
  obtain ⟨h1, h2, h3⟩ := id hmd.2.1
  rw [List.length_append, List.length_singleton] at h1 h2
  refine o_aload_n dX12_undo_0 rfl ?_
  refine o_aload_n dX12_undo_1 rfl ?_
  refine o_gf dX12_undo_2 fl_X12_51 rfl (by decide) rfl ?_
  refine o_if_ne (tgt := 12) dX12_undo_5 (by decide) ⟨by omega, by omega⟩ (fun c_5 => ?_) (fun c_5 => ?_)
  · skip
    refine o_iconst dX12_undo_12 ?_
    refine o_pmE dX12_undo_13 fp_X12_42 rfl (by decide) (Nat.le_of_ble_eq_true rfl) rfl rfl (fun _ => rfl) (by decide) (fun g_13 e_13 => ?_)
    refine o_aload_n dX12_undo_16 rfl ?_
    refine o_gf dX12_undo_17 fl_X12_42 rfl (by decide) rfl ?_
    rw [show g_13 192 7 = 0 by rw [e_13, o_e_s]]
    refine o_if_le (tgt := 25) dX12_undo_20 (by decide) ⟨by omega, by omega⟩ (fun _ => ?_) (fun c => absurd (by decide) c)
    refine o_aload_n dX12_undo_25 rfl ?_
    refine o_dup dX12_undo_26 rfl ?_
    refine o_gf dX12_undo_27 fl_X12_51 rfl (by decide) rfl ?_
    refine o_iconst dX12_undo_30 ?_
    refine o_isub dX12_undo_31 ?_
    refine o_pmE dX12_undo_32 fp_X12_51 rfl (by decide) (Nat.le_of_ble_eq_true rfl) rfl rfl (fun _ => rfl) (by decide) (fun g_32 e_32 => ?_)
    refine o_aload_n dX12_undo_35 rfl ?_
    refine o_gf dX12_undo_36 fl_X12_22 rfl (by decide) rfl ?_
    refine o_bipush dX12_undo_39 (by decide) ?_
    refine o_aload_n dX12_undo_41 rfl ?_
    refine o_gf dX12_undo_42 fl_X12_51 rfl (by decide) rfl ?_
    have v32 : g_32 192 6 = P.length := by rw [e_32, o_e_s, e_13, o_e_k (by decide)]; omega
    refine o_imul dX12_undo_45 ?_
    refine o_aload_n dX12_undo_46 rfl ?_
    refine o_gf dX12_undo_47 fl_X12_9 rfl (by decide) rfl ?_
    refine o_iconst dX12_undo_50 ?_
    refine o_bipush dX12_undo_51 (by decide) ?_
    refine o_cpE (sp := (81 * P.length)) (dp := 0) (m0 := 81) dX12_undo_53 ml_X12_45 (by decide) (by decide) rfl rfl (by decide) (by decide) (by first | rfl | omega) (by first | rfl | omega) (by first | rfl | omega) (by omega) (by omega) (Nat.le_of_ble_eq_true rfl) (fun _ => rfl) (by decide) (fun g_53 e_53 => ?_)
    refine o_aload_n dX12_undo_56 rfl ?_
    refine o_gf dX12_undo_57 fl_X12_51 rfl (by decide) rfl ?_
    refine o_ret1 dX12_undo_60 trivial ?_
    have k1 : o_fr r_m9 g g_53 := fun a ha => by
      have ha' : ¬ (192 ≤ a ∧ a ≤ 200) := ha
      rw [e_53, o_cp_n (by omega), e_32, o_e_n (by omega), e_13, o_e_n (by omega)]
    have j1 : ∀ j, j ≠ 6 → j ≠ 7 → g_53 192 j = g 192 j := fun j a b => by rw [e_53, o_cp_n (by decide), e_32, o_e_k a, e_13, o_e_k b]
    have c1 : ∀ a, a ≠ 192 → a ≠ 193 → g_53 a = g a := fun a x y => by rw [e_53, o_cp_n y, e_32, o_e_n x, e_13, o_e_n x]
    have v6 : g_53 192 6 = P.length := by rw [e_53, o_cp_n (by decide)]; exact v32
    refine r_xI (by omega) ⟨by rw [e_53, o_cp_n (by decide), e_32, o_e_k (by decide), e_13, o_e_s], ⟨?_, ⟨v6, by omega, fun k M' hk => ?_⟩, r_m3_c hmd.2.2.1 (j1 4 (by decide) (by decide)) (c1 196 (by decide) (by decide)), r_m4_c hmd.2.2.2 (fun j hj => j1 j (by omega) (by omega)) (c1 198 (by decide) (by decide)) (c1 199 (by decide) (by decide))⟩, k1⟩
    · have t := h3 P.length B (by rw [List.getElem?_append_right (Nat.le_refl _), Nat.sub_self]; rfl)
      refine sr_cpy t.2 t.1 (fun j hj => ?_)
      rw [e_53]
      unfold o_cp
      rw [if_pos ⟨rfl, by omega, by omega⟩, e_32, o_e_n (by decide), e_13, o_e_n (by decide)]
      congr 1 <;> omega
    · have hkl : k < P.length := by rcases Nat.lt_or_ge k P.length with q | q; exact q; rw [List.getElem?_eq_none q] at hk; cases hk
      have t := h3 k M' (by rw [List.getElem?_append_left hkl]; exact hk)
      rw [c1 197 (by decide) (by decide)]
      exact t
  · skip
    exfalso
    omega
set_option maxRecDepth 100000 in
set_option maxHeartbeats 4000000 in
/-- save() -/
theorem ct_X12_save {l : Launch} (hl : l.stackTraces = false) (d : Nat) (g M : Nat → Nat → Int) (P : List (Nat → Nat → Int)) (S : Option (Nat → Nat → Int)) (T : Nat → Nat → Int) (hmd : o_md g M P S T) (hwk : o_wk M) : o_Ct l yX12_save wX12_save (d + 1) o_no [.ref 192] o_N (o_mem g) 0 0 (r_x 0 (M 0 1) M P (some M) T g) := by
  refine o_Ct.ofV hl mX12_save (by decide +kernel) rfl rfl rfl (Nat.le_of_ble_eq_true rfl) ?_
  refine o_aload_n dX12_save_0 rfl ?_
  refine o_iconst dX12_save_1 ?_
  refine o_pmE dX12_save_2 fp_X12_42 rfl (by decide) (Nat.le_of_ble_eq_true rfl) rfl rfl (fun _ => rfl) (by decide) (fun g_2 e_2 => ?_)
  refine o_aload_n dX12_save_5 rfl ?_
  refine o_gf dX12_save_6 fl_X12_9 rfl (by decide) rfl ?_
  refine o_iconst dX12_save_9 ?_
  refine o_aload_n dX12_save_10 rfl ?_
  refine o_gf dX12_save_11 fl_X12_19 rfl (by decide) rfl ?_
  refine o_iconst dX12_save_14 ?_
  refine o_bipush dX12_save_15 (by decide) ?_
  refine o_cpE (sp := 0) (dp := 0) (m0 := 81) dX12_save_17 ml_X12_45 (by decide) (by decide) rfl rfl (by decide) (by decide) (by first | rfl | omega) (by first | rfl | omega) (by first | rfl | omega) (by omega) (by omega) (Nat.le_of_ble_eq_true rfl) (fun _ => rfl) (by decide) (fun g_17 e_17 => ?_)
  refine o_aload_n dX12_save_20 rfl ?_
  refine o_iconst dX12_save_21 ?_
  refine o_pmE dX12_save_22 fp_X12_254 rfl (by decide) (Nat.le_of_ble_eq_true rfl) rfl rfl (fun _ => rfl) (by decide) (fun g_22 e_22 => ?_)
  refine o_aload_n dX12_save_25 rfl ?_
  refine o_gf dX12_save_26 fl_X12_9 rfl (by decide) rfl ?_
  refine o_iconst dX12_save_29 ?_
  refine o_ialdn (j := 1) dX12_save_30 (by decide) rfl (by decide) (by first | rfl | omega) (by omega) ?_
  refine o_ret1 dX12_save_31 trivial ?_
  have c1 : ∀ a, a ≠ 192 → a ≠ 196 → g_22 a = g a := fun a x y => by rw [e_22, o_e_n x, e_17, o_cp_n y, e_2, o_e_n x]
  have j1 : ∀ j, j ≠ 4 → j ≠ 7 → g_22 192 j = g 192 j := fun j a b => by rw [e_22, o_e_k a, e_17, o_cp_n (by decide), e_2, o_e_k b]
  have e193 : g_22 193 = g 193 := c1 193 (by decide) (by decide)
  refine r_xI (by rw [e193]; exact hmd.1.1.2.1.symm) ⟨by rw [e_22, o_e_k (by decide), e_17, o_cp_n (by decide), e_2, o_e_s], ⟨by rw [e193]; exact hmd.1, r_m2_c hmd.2.1 (j1 6 (by decide) (by decide)) (c1 197 (by decide) (by decide)), ⟨by rw [e_22, o_e_s]; rfl, fun M' hM => ?_⟩, r_m4_c hmd.2.2.2 (fun j hj => j1 j (by omega) (by omega)) (c1 198 (by decide) (by decide)) (c1 199 (by decide) (by decide))⟩, fun a ha => ?_⟩
  · cases hM
    refine ⟨hwk, sr_cpy hmd.1 hwk (fun j hj => ?_)⟩
    rw [e_22, o_e_n (by decide), e_17]
    unfold o_cp
    rw [if_pos ⟨rfl, by omega, by omega⟩, e_2, o_e_n (by decide)]
    congr 1
    omega
  · have ha' : ¬ (192 ≤ a ∧ a ≤ 200) := ha
    exact c1 a (by omega) (by omega)
set_option maxRecDepth 100000 in
set_option maxHeartbeats 4000000 in
/-- restore(), nothing saved -/
theorem ct_X12_restoreN {l : Launch} (hl : l.stackTraces = false) (d : Nat) (g M : Nat → Nat → Int) (P : List (Nat → Nat → Int)) (T : Nat → Nat → Int) (hmd : o_md g M P none T) (hwk : o_wk M) : o_Ct l yX12_restore wX12_restore (d + 1) o_no [.ref 192] o_N (o_mem g) 0 0 (r_x 1 0 M P none T g) := by
  refine o_Ct.ofV hl mX12_restore (by decide +kernel) rfl rfl rfl (Nat.le_of_ble_eq_true rfl) ?_
  have h4 : g 192 4 = 0 := hmd.2.2.1.1
  refine o_aload_n dX12_restore_0 rfl ?_
  refine o_aload_n dX12_restore_1 rfl ?_
  refine o_gf dX12_restore_2 fl_X12_254 rfl (by decide) rfl ?_
  refine o_if_eq (tgt := 12) dX12_restore_5 (by decide) ⟨by omega, by omega⟩ (fun _ => ?_) (fun c => absurd h4 c)
  refine o_iconst dX12_restore_12 ?_
  refine o_pmE dX12_restore_13 fp_X12_42 rfl (by decide) (Nat.le_of_ble_eq_true rfl) rfl rfl (fun _ => rfl) (by decide) (fun g_13 e_13 => ?_)
  refine o_aload_n dX12_restore_16 rfl ?_
  refine o_gf dX12_restore_17 fl_X12_42 rfl (by decide) rfl ?_
  rw [show g_13 192 7 = 1 by rw [e_13, o_e_s]]
  refine o_if_le (tgt := 25) dX12_restore_20 (by decide) ⟨by omega, by omega⟩ (fun c => absurd c (by decide)) (fun _ => ?_)
  refine o_iconst dX12_restore_23 ?_
  refine o_ret1 dX12_restore_24 trivial ?_
  exact r_xq hmd rfl e_13
set_option maxRecDepth 100000 in
set_option maxHeartbeats 4000000 in
/-- restore() -/
theorem ct_X12_restoreY {l : Launch} (hl : l.stackTraces = false) (d : Nat) (g M : Nat → Nat → Int) (P : List (Nat → Nat → Int)) (B : Nat → Nat → Int) (T : Nat → Nat → Int) (hmd : o_md g M P (some B) T) (hwk : o_wk M) : o_Ct l yX12_restore wX12_restore (d + 1) o_no [.ref 192] o_N (o_mem g) 0 0 (r_x 0 (B 0 1) B [] (some B) T g) := by
  refine o_Ct.ofV hl mX12_restore (by decide +kernel) rfl rfl rfl (Nat.le_of_ble_eq_true rfl) ?_
  have h4 : g 192 4 = 1 := hmd.2.2.1.1
  refine o_aload_n dX12_restore_0 rfl ?_
  refine o_aload_n dX12_restore_1 rfl ?_
  refine o_gf dX12_restore_2 fl_X12_254 rfl (by decide) rfl ?_
  refine o_if_eq (tgt := 12) dX12_restore_5 (by decide) ⟨by omega, by omega⟩ (fun c => absurd c (by omega)) (fun _ => ?_)
  refine o_iconst dX12_restore_8 ?_
  refine o_goto (tgt := 13) dX12_restore_9 (by decide) ?_
  refine o_pmE dX12_restore_13 fp_X12_42 rfl (by decide) (Nat.le_of_ble_eq_true rfl) rfl rfl (fun _ => rfl) (by decide) (fun g_13 e_13 => ?_)
  refine o_aload_n dX12_restore_16 rfl ?_
  refine o_gf dX12_restore_17 fl_X12_42 rfl (by decide) rfl ?_
  rw [show g_13 192 7 = 0 by rw [e_13, o_e_s]]
  refine o_if_le (tgt := 25) dX12_restore_20 (by decide) ⟨by omega, by omega⟩ (fun _ => ?_) (fun c => absurd (by decide) c)
  refine o_aload_n dX12_restore_25 rfl ?_
  refine o_gf dX12_restore_26 fl_X12_19 rfl (by decide) rfl ?_
  refine o_iconst dX12_restore_29 ?_
  refine o_aload_n dX12_restore_30 rfl ?_
  refine o_gf dX12_restore_31 fl_X12_9 rfl (by decide) rfl ?_
  refine o_iconst dX12_restore_34 ?_
  refine o_bipush dX12_restore_35 (by decide) ?_
  refine o_cpE (sp := 0) (dp := 0) (m0 := 81) dX12_restore_37 ml_X12_45 (by decide) (by decide) rfl rfl (by decide) (by decide) (by first | rfl | omega) (by first | rfl | omega) (by first | rfl | omega) (by omega) (by omega) (Nat.le_of_ble_eq_true rfl) (fun _ => rfl) (by decide) (fun g_37 e_37 => ?_)
  refine o_aload_n dX12_restore_40 rfl ?_
  refine o_iconst dX12_restore_41 ?_
  refine o_pmE dX12_restore_42 fp_X12_51 rfl (by decide) (Nat.le_of_ble_eq_true rfl) rfl rfl (fun _ => rfl) (by decide) (fun g_42 e_42 => ?_)
  refine o_aload_n dX12_restore_45 rfl ?_
  refine o_gf dX12_restore_46 fl_X12_9 rfl (by decide) rfl ?_
  refine o_iconst dX12_restore_49 ?_
  refine o_ialdn (j := 1) dX12_restore_50 (by decide) rfl (by decide) (by first | rfl | omega) (by omega) ?_
  refine o_ret1 dX12_restore_51 trivial ?_
  have c1 : ∀ a, a ≠ 192 → a ≠ 193 → g_42 a = g a := fun a x y => by rw [e_42, o_e_n x, e_37, o_cp_n y, e_13, o_e_n x]
  have j1 : ∀ j, j ≠ 6 → j ≠ 7 → g_42 192 j = g 192 j := fun j a b => by rw [e_42, o_e_k a, e_37, o_cp_n (by decide), e_13, o_e_k b]
  obtain ⟨hwB, hB⟩ := hmd.2.2.1.2 B rfl
  have hs : o_sr (g_42 193) B := by
    refine sr_cpy hB hwB (fun j hj => ?_)
    rw [e_42, o_e_n (by decide), e_37]
    unfold o_cp
    rw [if_pos ⟨rfl, by omega, by omega⟩, e_13, o_e_n (by decide)]
    congr 1
    omega
  refine r_xI hs.1.2.1.symm ⟨by rw [e_42, o_e_k (by decide), e_37, o_cp_n (by decide), e_13, o_e_s], ⟨hs, ⟨by rw [e_42, o_e_s]; rfl, by decide, fun k M' hk => by cases hk⟩, r_m3_c hmd.2.2.1 (j1 4 (by decide) (by decide)) (c1 196 (by decide) (by decide)), r_m4_c hmd.2.2.2 (fun j hj => j1 j (by omega) (by omega)) (c1 198 (by decide) (by decide)) (c1 199 (by decide) (by decide))⟩, fun a ha => ?_⟩
  have ha' : ¬ (192 ≤ a ∧ a ≤ 200) := ha
  exact c1 a (by omega) (by omega)
def t_feed (T : Nat → Nat → Int) (c : Int) : Nat → Nat → Int := o_e (o_e T 1 (T 0 0).toNat c) 0 0 (T 0 0 + 1)
set_option maxRecDepth 100000 in
set_option maxHeartbeats 4000000 in
/-- feed(c), full -/
theorem ct_X12_feedN {l : Launch} (hl : l.stackTraces = false) (d : Nat) (g M : Nat → Nat → Int) (P : List (Nat → Nat → Int)) (S : Option (Nat → Nat → Int)) (T : Nat → Nat → Int) (hmd : o_md g M P S T) (hwk : o_wk M) (c : Int) (hT : T 0 0 = 60) : o_Ct l yX12_feed wX12_feed (d + 1) o_no [.ref 192, .int (o_I c)] o_N (o_mem g) 0 0 (r_x 1 0 M P S T g) := by
  refine o_Ct.ofV hl mX12_feed (by decide +kernel) rfl rfl rfl (Nat.le_of_ble_eq_true rfl) ?_
  have h11 : g 192 11 = T 0 0 := hmd.2.2.2.1
  refine o_aload_n dX12_feed_0 rfl ?_
  refine o_aload_n dX12_feed_1 rfl ?_
  refine o_gf dX12_feed_2 fl_X12_182 rfl (by decide) rfl ?_
  refine o_bipush dX12_feed_5 (by decide) ?_
  refine o_icmp_ne (tgt := 14) dX12_feed_7 (by decide) ⟨by omega, by omega⟩ ⟨by omega, by omega⟩ (fun c_7 => ?_) (fun c_7 => ?_)
  · skip
    exfalso
    omega
  · skip
    refine o_iconst dX12_feed_10 ?_
    refine o_goto (tgt := 15) dX12_feed_11 (by decide) ?_
    refine o_pmE dX12_feed_15 fp_X12_42 rfl (by decide) (Nat.le_of_ble_eq_true rfl) rfl rfl (fun _ => rfl) (by decide) (fun g_15 e_15 => ?_)
    refine o_aload_n dX12_feed_18 rfl ?_
    refine o_gf dX12_feed_19 fl_X12_42 rfl (by decide) rfl ?_
    rw [show g_15 192 7 = 1 by rw [e_15, o_e_s]]
    refine o_if_le (tgt := 27) dX12_feed_22 (by decide) ⟨by omega, by omega⟩ (fun c => absurd c (by decide)) (fun _ => ?_)
    refine o_iconst dX12_feed_25 ?_
    refine o_ret1 dX12_feed_26 trivial ?_
    exact r_xq hmd rfl e_15
set_option maxRecDepth 100000 in
set_option maxHeartbeats 4000000 in
/-- feed(c) -/
theorem ct_X12_feedY {l : Launch} (hl : l.stackTraces = false) (d : Nat) (g M : Nat → Nat → Int) (P : List (Nat → Nat → Int)) (S : Option (Nat → Nat → Int)) (T : Nat → Nat → Int) (hmd : o_md g M P S T) (hwk : o_wk M) (c : Int) (hc0 : 0 ≤ c) (hc1 : c < 65536) (hT0 : 0 ≤ T 0 0) (hT : T 0 0 < 60) : o_Ct l yX12_feed wX12_feed (d + 1) o_no [.ref 192, .int (o_I c)] o_N (o_mem g) 0 0 (r_x 0 (T 0 0 + 1) M P S (t_feed T c) g) := by
  refine o_Ct.ofV hl mX12_feed (by decide +kernel) rfl rfl rfl (Nat.le_of_ble_eq_true rfl) ?_
  have h11 : g 192 11 = T 0 0 := hmd.2.2.2.1
  refine o_aload_n dX12_feed_0 rfl ?_
  refine o_aload_n dX12_feed_1 rfl ?_
  refine o_gf dX12_feed_2 fl_X12_182 rfl (by decide) rfl ?_
  refine o_bipush dX12_feed_5 (by decide) ?_
  refine o_icmp_ne (tgt := 14) dX12_feed_7 (by decide) ⟨by omega, by omega⟩ ⟨by omega, by omega⟩ (fun c_7 => ?_) (fun c_7 => ?_)
  · skip
    refine o_iconst dX12_feed_14 ?_
    refine o_pmE dX12_feed_15 fp_X12_42 rfl (by decide) (Nat.le_of_ble_eq_true rfl) rfl rfl (fun _ => rfl) (by decide) (fun g_15 e_15 => ?_)
    refine o_aload_n dX12_feed_18 rfl ?_
    refine o_gf dX12_feed_19 fl_X12_42 rfl (by decide) rfl ?_
    rw [show g_15 192 7 = 0 by rw [e_15, o_e_s]]
    have v15 : g_15 192 11 = T 0 0 := by rw [e_15, o_e_k (by decide)]; exact h11
    refine o_if_le (tgt := 27) dX12_feed_22 (by decide) ⟨by omega, by omega⟩ (fun _ => ?_) (fun c => absurd (by decide) c)
    refine o_aload_n dX12_feed_27 rfl ?_
    refine o_gf dX12_feed_28 fl_X12_29 rfl (by decide) rfl ?_
    refine o_aload_n dX12_feed_31 rfl ?_
    refine o_gf dX12_feed_32 fl_X12_182 rfl (by decide) rfl ?_
    rw [show g_15 192 11 = (((T 0 0).toNat : Nat) : Int) by omega]
    refine o_iload_n dX12_feed_35 rfl ?_
    refine o_caEn (j := (T 0 0).toNat) dX12_feed_36 rfl (by decide) (by decide) (by first | rfl | omega) (by omega) (by omega) (by omega) (fun _ => rfl) (by decide) (fun g_36 e_36 => ?_)
    refine o_aload_n dX12_feed_37 rfl ?_
    refine o_dup dX12_feed_38 rfl ?_
    refine o_gf dX12_feed_39 fl_X12_182 rfl (by decide) rfl ?_
    refine o_iconst dX12_feed_42 ?_
    refine o_iadd dX12_feed_43 ?_
    refine o_pmE dX12_feed_44 fp_X12_182 rfl (by decide) (Nat.le_of_ble_eq_true rfl) rfl rfl (fun _ => rfl) (by decide) (fun g_44 e_44 => ?_)
    refine o_aload_n dX12_feed_47 rfl ?_
    refine o_gf dX12_feed_48 fl_X12_182 rfl (by decide) rfl ?_
    refine o_ret1 dX12_feed_51 trivial ?_
    have c1 : ∀ a, a ≠ 192 → a ≠ 199 → g_44 a = g a := fun a x y => by rw [e_44, o_e_n x, e_36, o_e_n y, e_15, o_e_n x]
    have j1 : ∀ j, j ≠ 11 → j ≠ 7 → g_44 192 j = g 192 j := fun j a b => by rw [e_44, o_e_k a, e_36, o_e_n (by decide), e_15, o_e_k b]
    have v11 : g_44 192 11 = T 0 0 + 1 := by rw [e_44, o_e_s, e_36, o_e_n (by decide)]; omega
    refine r_xI v11.symm ⟨by rw [e_44, o_e_k (by decide), e_36, o_e_n (by decide), e_15, o_e_s], ⟨by rw [c1 193 (by decide) (by decide)]; exact hmd.1, r_m2_c hmd.2.1 (j1 6 (by decide) (by decide)) (c1 197 (by decide) (by decide)), r_m3_c hmd.2.2.1 (j1 4 (by decide) (by decide)) (c1 196 (by decide) (by decide)), ?_⟩, fun a ha => ?_⟩
    · obtain ⟨t1, t2, t3, t4, t5, t6, t7⟩ := hmd.2.2.2
      refine ⟨v11, fun j hj => ?_, (j1 9 (by decide) (by decide)).trans t3, fun j hj => ?_, (j1 14 (by decide) (by decide)).trans t5, (j1 15 (by decide) (by decide)).trans t6, (j1 16 (by decide) (by decide)).trans t7⟩
      · have hj : (j : Int) < T 0 0 + 1 := hj
        have e1 : t_feed T c 1 j = if j = (T 0 0).toNat then c else T 1 j := by simp [t_feed, o_e]
        rw [e1, e_44, o_e_n (by decide), e_36]
        by_cases q : j = (T 0 0).toNat
        · rw [if_pos q, q, o_e_s]
        · rw [if_neg q, o_e_k q, e_15, o_e_n (by decide)]
          exact t2 j (by omega)
      · rw [c1 198 (by decide) (by decide)]
        exact t4 j hj
    · have ha' : ¬ (192 ≤ a ∧ a ≤ 200) := ha
      exact c1 a (by omega) (by omega)
  · skip
    exfalso
    omega
set_option maxRecDepth 100000 in
set_option maxHeartbeats 4000000 in
/-- errorPosition() -/
theorem ct_X12_errorPosition {l : Launch} (hl : l.stackTraces = false) (d : Nat) (g M : Nat → Nat → Int) (P : List (Nat → Nat → Int)) (S : Option (Nat → Nat → Int)) (T : Nat → Nat → Int) (hmd : o_md g M P S T) (hwk : o_wk M) (hR : o_R (T 0 2)) : o_Ct l yX12_errorPosition wX12_errorPosition (d + 2) o_no [.ref 192] o_N (o_mem g) 0 0 (r_x (1 - o_b (0 ≤ T 0 2)) (if 0 ≤ T 0 2 then T 0 2 else 0) M P S T g) := by
  refine o_Ct.ofV hl mX12_errorPosition (by decide +kernel) rfl rfl rfl (Nat.le_of_ble_eq_true rfl) ?_
  obtain ⟨h11, -, h9, -, h14, h15, h16⟩ := id hmd.2.2.2
  obtain ⟨hRa, hRb⟩ := hR
  refine o_aload_n dX12_errorPosition_0 rfl ?_
  refine o_aload_n dX12_errorPosition_1 rfl ?_
  refine o_gf dX12_errorPosition_2 fl_X12_32 rfl (by decide) rfl ?_
  refine o_if_lt (tgt := 12) dX12_errorPosition_5 (by decide) ⟨by omega, by omega⟩ (fun c_5 => ?_) (fun c_5 => ?_)
  · skip
    refine o_iconst dX12_errorPosition_12 ?_
    have hp : ¬ (0 ≤ T 0 2) := by omega
    refine o_cVm _ (ct_X12_isThere hl d g False) dX12_errorPosition_13 ml_X12_144 yw_X12_isThere rfl (by decide) (by omega) (by decide) rfl rfl rfl (Nat.le_of_ble_eq_true rfl) (fun g_13 q_13 => ?_)
    refine o_ifb_eq (tgt := 26) dX12_errorPosition_16 (by decide) (fun _ => ?_) (fun c => c.elim)
    refine o_iconst dX12_errorPosition_26 ?_
    refine o_ret1 dX12_errorPosition_27 trivial ?_
    exact r_xq hmd (by rw [if_neg hp]) (by rw [q_13, o_b0 hp, o_b0 (fun q : False => q)])
  · skip
    refine o_iconst dX12_errorPosition_8 ?_
    refine o_goto (tgt := 13) dX12_errorPosition_9 (by decide) ?_
    have hp : 0 ≤ T 0 2 := by omega
    refine o_cVm _ (ct_X12_isThere hl d g True) dX12_errorPosition_13 ml_X12_144 yw_X12_isThere rfl (by decide) (by omega) (by decide) rfl rfl rfl (Nat.le_of_ble_eq_true rfl) (fun g_13 q_13 => ?_)
    refine o_ifb_eq (tgt := 26) dX12_errorPosition_16 (by decide) (fun c => absurd trivial c) (fun _ => ?_)
    refine o_aload_n dX12_errorPosition_19 rfl ?_
    refine o_gf dX12_errorPosition_20 fl_X12_32 rfl (by decide) rfl ?_
    refine o_goto (tgt := 27) dX12_errorPosition_23 (by decide) ?_
    refine o_ret1 dX12_errorPosition_27 trivial ?_
    exact r_xq hmd (by rw [if_pos hp, q_13, o_e_k (by decide)]; exact h14.symm) (by rw [q_13, o_b1 hp, o_b1 trivial])
set_option maxRecDepth 100000 in
set_option maxHeartbeats 4000000 in
/-- failedCommand() -/
theorem ct_X12_failedCommand {l : Launch} (hl : l.stackTraces = false) (d : Nat) (g M : Nat → Nat → Int) (P : List (Nat → Nat → Int)) (S : Option (Nat → Nat → Int)) (T : Nat → Nat → Int) (hmd : o_md g M P S T) (hwk : o_wk M) (hR : o_R (T 0 3)) : o_Ct l yX12_failedCommand wX12_failedCommand (d + 2) o_no [.ref 192] o_N (o_mem g) 0 0 (r_x (1 - o_b (0 ≤ T 0 3)) (if 0 ≤ T 0 3 then T 0 3 else 0) M P S T g) := by
  refine o_Ct.ofV hl mX12_failedCommand (by decide +kernel) rfl rfl rfl (Nat.le_of_ble_eq_true rfl) ?_
  obtain ⟨h11, -, h9, -, h14, h15, h16⟩ := id hmd.2.2.2
  obtain ⟨hRa, hRb⟩ := hR
  refine o_aload_n dX12_failedCommand_0 rfl ?_
  refine o_aload_n dX12_failedCommand_1 rfl ?_
  refine o_gf dX12_failedCommand_2 fl_X12_36 rfl (by decide) rfl ?_
  refine o_if_lt (tgt := 12) dX12_failedCommand_5 (by decide) ⟨by omega, by omega⟩ (fun c_5 => ?_) (fun c_5 => ?_)
  · skip
    refine o_iconst dX12_failedCommand_12 ?_
    have hp : ¬ (0 ≤ T 0 3) := by omega
    refine o_cVm _ (ct_X12_isThere hl d g False) dX12_failedCommand_13 ml_X12_144 yw_X12_isThere rfl (by decide) (by omega) (by decide) rfl rfl rfl (Nat.le_of_ble_eq_true rfl) (fun g_13 q_13 => ?_)
    refine o_ifb_eq (tgt := 26) dX12_failedCommand_16 (by decide) (fun _ => ?_) (fun c => c.elim)
    refine o_iconst dX12_failedCommand_26 ?_
    refine o_ret1 dX12_failedCommand_27 trivial ?_
    exact r_xq hmd (by rw [if_neg hp]) (by rw [q_13, o_b0 hp, o_b0 (fun q : False => q)])
  · skip
    refine o_iconst dX12_failedCommand_8 ?_
    refine o_goto (tgt := 13) dX12_failedCommand_9 (by decide) ?_
    have hp : 0 ≤ T 0 3 := by omega
    refine o_cVm _ (ct_X12_isThere hl d g True) dX12_failedCommand_13 ml_X12_144 yw_X12_isThere rfl (by decide) (by omega) (by decide) rfl rfl rfl (Nat.le_of_ble_eq_true rfl) (fun g_13 q_13 => ?_)
    refine o_ifb_eq (tgt := 26) dX12_failedCommand_16 (by decide) (fun c => absurd trivial c) (fun _ => ?_)
    refine o_aload_n dX12_failedCommand_19 rfl ?_
    refine o_gf dX12_failedCommand_20 fl_X12_36 rfl (by decide) rfl ?_
    refine o_goto (tgt := 27) dX12_failedCommand_23 (by decide) ?_
    refine o_ret1 dX12_failedCommand_27 trivial ?_
    exact r_xq hmd (by rw [if_pos hp, q_13, o_e_k (by decide)]; exact h15.symm) (by rw [q_13, o_b1 hp, o_b1 trivial])
set_option maxRecDepth 100000 in
set_option maxHeartbeats 4000000 in
/-- failureReason() -/
theorem ct_X12_failureReason {l : Launch} (hl : l.stackTraces = false) (d : Nat) (g M : Nat → Nat → Int) (P : List (Nat → Nat → Int)) (S : Option (Nat → Nat → Int)) (T : Nat → Nat → Int) (hmd : o_md g M P S T) (hwk : o_wk M) (h40 : 0 ≤ T 0 4) (h41 : T 0 4 < 65536) (hR : o_R (T 0 3)) : o_Ct l yX12_failureReason wX12_failureReason (d + 2) o_no [.ref 192] o_N (o_mem g) 0 0 (r_x (1 - o_b (0 ≤ T 0 3)) (if 0 ≤ T 0 3 then T 0 4 else 32) M P S T g) := by
  refine o_Ct.ofV hl mX12_failureReason (by decide +kernel) rfl rfl rfl (Nat.le_of_ble_eq_true rfl) ?_
  obtain ⟨h11, -, h9, -, h14, h15, h16⟩ := id hmd.2.2.2
  obtain ⟨hRa, hRb⟩ := hR
  refine o_aload_n dX12_failureReason_0 rfl ?_
  refine o_aload_n dX12_failureReason_1 rfl ?_
  refine o_gf dX12_failureReason_2 fl_X12_36 rfl (by decide) rfl ?_
  refine o_if_lt (tgt := 12) dX12_failureReason_5 (by decide) ⟨by omega, by omega⟩ (fun c_5 => ?_) (fun c_5 => ?_)
  · skip
    refine o_iconst dX12_failureReason_12 ?_
    have hp : ¬ (0 ≤ T 0 3) := by omega
    refine o_cVm _ (ct_X12_isThere hl d g False) dX12_failureReason_13 ml_X12_144 yw_X12_isThere rfl (by decide) (by omega) (by decide) rfl rfl rfl (Nat.le_of_ble_eq_true rfl) (fun g_13 q_13 => ?_)
    refine o_ifb_eq (tgt := 26) dX12_failureReason_16 (by decide) (fun _ => ?_) (fun c => c.elim)
    refine o_bipush dX12_failureReason_26 (by decide) ?_
    refine o_ret1 dX12_failureReason_28 (by first | exact o_rcN 32 (by decide) (by decide) | exact o_rcN _ (by rw [q_13, o_e_k (by decide), h16]; omega) (by rw [q_13, o_e_k (by decide), h16]; omega)) ?_
    exact r_xq hmd (by rw [if_neg hp]) (by rw [q_13, o_b0 hp, o_b0 (fun q : False => q)])
  · skip
    refine o_iconst dX12_failureReason_8 ?_
    refine o_goto (tgt := 13) dX12_failureReason_9 (by decide) ?_
    have hp : 0 ≤ T 0 3 := by omega
    refine o_cVm _ (ct_X12_isThere hl d g True) dX12_failureReason_13 ml_X12_144 yw_X12_isThere rfl (by decide) (by omega) (by decide) rfl rfl rfl (Nat.le_of_ble_eq_true rfl) (fun g_13 q_13 => ?_)
    refine o_ifb_eq (tgt := 26) dX12_failureReason_16 (by decide) (fun c => absurd trivial c) (fun _ => ?_)
    refine o_aload_n dX12_failureReason_19 rfl ?_
    refine o_gf dX12_failureReason_20 fl_X12_250 rfl (by decide) rfl ?_
    refine o_goto (tgt := 28) dX12_failureReason_23 (by decide) ?_
    refine o_ret1 dX12_failureReason_28 (by first | exact o_rcN 32 (by decide) (by decide) | exact o_rcN _ (by rw [q_13, o_e_k (by decide), h16]; omega) (by rw [q_13, o_e_k (by decide), h16]; omega)) ?_
    exact r_xq hmd (by rw [if_pos hp, q_13, o_e_k (by decide)]; exact h16.symm) (by rw [q_13, o_b1 hp, o_b1 trivial])
set_option maxRecDepth 100000 in
set_option maxHeartbeats 4000000 in
/-- undoCount() -/
theorem ct_X12_undoCount {l : Launch} (hl : l.stackTraces = false) (d : Nat) (g M : Nat → Nat → Int) (P : List (Nat → Nat → Int)) (S : Option (Nat → Nat → Int)) (T : Nat → Nat → Int) (hmd : o_md g M P S T) (hwk : o_wk M) : o_Ct l yX12_undoCount wX12_undoCount (d + 1) o_no [.ref 192] o_N (o_mem g) 0 0 (r_x 0 P.length M P S T g) := by
  refine o_Ct.ofV hl mX12_undoCount (by decide +kernel) rfl rfl rfl (Nat.le_of_ble_eq_true rfl) ?_
  refine o_aload_n dX12_undoCount_0 rfl ?_
  refine o_iconst dX12_undoCount_1 ?_
  refine o_pmE dX12_undoCount_2 fp_X12_42 rfl (by decide) (Nat.le_of_ble_eq_true rfl) rfl rfl (fun _ => rfl) (by decide) (fun g_2 e_2 => ?_)
  refine o_aload_n dX12_undoCount_5 rfl ?_
  refine o_gf dX12_undoCount_6 fl_X12_51 rfl (by decide) rfl ?_
  refine o_ret1 dX12_undoCount_9 trivial ?_
  exact r_xq hmd (by rw [e_2, o_e_k (by decide)]; exact hmd.2.1.1.symm) e_2
set_option maxRecDepth 100000 in
set_option maxHeartbeats 4000000 in
/-- isConsistent() -/
theorem ct_X12_isConsistent {l : Launch} (hl : l.stackTraces = false) (d : Nat) (g M : Nat → Nat → Int) (P : List (Nat → Nat → Int)) (S : Option (Nat → Nat → Int)) (T : Nat → Nat → Int) (hmd : o_md g M P S T) (hwk : o_wk M) : o_Ct l yX12_isConsistent wX12_isConsistent (d + 1) o_no [.ref 192] o_N (o_mem g) 0 0 (r_x 0 1 M P S T g) := by
  refine o_Ct.ofV hl mX12_isConsistent (by decide +kernel) rfl rfl rfl (Nat.le_of_ble_eq_true rfl) ?_
  refine o_aload_n dX12_isConsistent_0 rfl ?_
  refine o_iconst dX12_isConsistent_1 ?_
  refine o_pmE dX12_isConsistent_2 fp_X12_42 rfl (by decide) (Nat.le_of_ble_eq_true rfl) rfl rfl (fun _ => rfl) (by decide) (fun g_2 e_2 => ?_)
  refine o_iconst dX12_isConsistent_5 ?_
  refine o_ret1 dX12_isConsistent_6 (by first | exact o_rb0 | exact o_rb1 | exact o_bn _) ?_
  exact r_xq hmd rfl e_2
set_option maxRecDepth 100000 in
set_option maxHeartbeats 4000000 in
/-- thrown() -/
theorem ct_X12_thrown {l : Launch} (hl : l.stackTraces = false) (d : Nat) (g : Nat → Nat → Int) : o_Ct l yX12_thrown wX12_thrown (d + 1) o_no [.ref 192] o_N (o_mem g) 0 0 (o_is (some (.int (o_I (g 192 7)))) o_N (o_mem g)) := by
  refine o_Ct.ofV hl mX12_thrown (by decide +kernel) rfl rfl rfl (Nat.le_of_ble_eq_true rfl) ?_
  refine o_aload_n dX12_thrown_0 rfl ?_
  refine o_gf dX12_thrown_1 fl_X12_42 rfl (by decide) rfl ?_
  refine o_ret1 dX12_thrown_4 trivial ?_
  exact ⟨rfl, rfl, rfl⟩
set_option maxRecDepth 100000 in
set_option maxHeartbeats 4000000 in
/-- share(i) -/
theorem ct_X12_share {l : Launch} (hl : l.stackTraces = false) (d : Nat) (g : Nat → Nat → Int) (M : Nat → Nat → Int) (hsr : o_sr (g 193) M) (hwk : o_wk M) (i : Int) (hi : o_R i) : o_Ct l yX12_share wX12_share (d + 5) o_no [.ref 192, .int (o_I i)] o_N (o_mem g) 0 0 (r_q (0 ≤ i ∧ i < M 0 0) (d_sh M i.toNat) g) := by
  refine o_Ct.ofV hl mX12_share (by decide +kernel) rfl rfl rfl (Nat.le_of_ble_eq_true rfl) ?_
  obtain ⟨i1, i2⟩ := id hi
  refine o_aload_n dX12_share_0 rfl ?_
  refine o_aload_n dX12_share_1 rfl ?_
  refine o_iload_n dX12_share_2 rfl ?_
  refine o_cV _ (ct_X12_isShip hl (d + 2) g M hsr hwk i hi) dX12_share_3 ml_X12_89 yw_X12_isShip rfl (by decide) (by omega) (by decide) rfl rfl rfl (Nat.le_of_ble_eq_true rfl) ?_
  refine o_cVm _ (ct_X12_isThere hl (d + 2) g (0 ≤ i ∧ i < M 0 0)) dX12_share_6 ml_X12_144 yw_X12_isThere rfl (by decide) (by omega) (by decide) rfl rfl rfl (Nat.le_of_ble_eq_true rfl) (fun g_6 q_6 => ?_)
  refine o_ifb_eq (tgt := 20) dX12_share_9 (by decide) (fun c_9 => ?_) (fun c_9 => ?_)
  · skip
    refine o_iconst dX12_share_20 ?_
    refine o_ret1 dX12_share_21 trivial ?_
    exact r_qN c_9 q_6
  · skip
    obtain ⟨j, rfl⟩ : ∃ j : Nat, (j : Int) = i := ⟨i.toNat, by omega⟩
    have hj : (j : Int) < M 0 0 := by omega
    refine o_aload_n dX12_share_12 rfl ?_
    refine o_iload_n dX12_share_13 rfl ?_
    refine o_cV _ (ct_X12_partOf hl d g_6 M (sr_n hsr q_6) hwk j hj) dX12_share_14 ml_X12_163 yw_X12_partOf rfl (by decide) (by omega) (by decide) rfl rfl rfl (Nat.le_of_ble_eq_true rfl) ?_
    refine o_goto (tgt := 21) dX12_share_17 (by decide) ?_
    refine o_ret1 dX12_share_21 trivial ?_
    exact r_qY c_9 (by simp only [Int.toNat_natCast]) q_6
set_option maxRecDepth 100000 in
set_option maxHeartbeats 4000000 in
/-- shareByRank(i) -/
theorem ct_X12_shareByRank {l : Launch} (hl : l.stackTraces = false) (d : Nat) (g : Nat → Nat → Int) (M : Nat → Nat → Int) (hsr : o_sr (g 193) M) (hwk : o_wk M) (i : Int) (hi : o_R i) : o_Ct l yX12_shareByRank wX12_shareByRank (d + 6) o_no [.ref 192, .int (o_I i)] o_N (o_mem g) 0 0 (r_q (0 ≤ i ∧ i < M 0 0) (d_sh M i.toNat) g) := by
  refine o_Ct.ofV hl mX12_shareByRank (by decide +kernel) rfl rfl rfl (Nat.le_of_ble_eq_true rfl) ?_
  obtain ⟨i1, i2⟩ := id hi
  refine o_aload_n dX12_shareByRank_0 rfl ?_
  refine o_iload_n dX12_shareByRank_1 rfl ?_
  refine o_cVm (Q := fun g' => g' = o_e g 192 7 (1 - o_b (0 ≤ i ∧ i < M 0 0))) (v := some (.int (o_I (if 0 ≤ i ∧ i < M 0 0 then d_sh M i.toNat else 0)))) _ (ct_X12_share hl d g M hsr hwk i hi) dX12_shareByRank_2 ml_X12_166 yw_X12_share rfl (by decide) (by omega) (by decide) rfl rfl rfl (Nat.le_of_ble_eq_true rfl) (fun g_2 q_2 => ?_)
  refine o_ret1 dX12_shareByRank_5 trivial ?_
  exact o_mtI rfl q_2
