/-! the reference's row of numbers, and the numbers -/
def o_sr (f : Nat → Int) (M : Nat → Nat → Int) : Prop := (f 0 = M 0 0 ∧ f 1 = M 0 1 ∧ f 2 = M 0 2 ∧ f 3 = M 0 3 ∧ f 4 = M 0 4 ∧ f 5 = M 0 5 ∧ f 6 = M 0 6) ∧ (∀ i : Nat, (i : Int) < M 0 0 → f (7 + 3 * i) = M 1 i ∧ f (7 + 3 * i + 1) = M 2 i ∧ f (7 + 3 * i + 2) = M 3 i) ∧ (∀ i : Nat, (i : Int) < M 0 1 → f (25 + 5 * i) = M 4 i ∧ f (25 + 5 * i + 1) = M 5 i ∧ f (25 + 5 * i + 2) = M 6 i ∧ f (25 + 5 * i + 3) = M 7 i ∧ f (25 + 5 * i + 4) = M 8 i) ∧ ∀ k : Nat, (k : Int) < M 0 6 → f (65 + 2 * k) = M 9 k ∧ f (65 + 2 * k + 1) = M 10 k
theorem o_e_row {g : Nat → Nat → Int} {b k : Nat} {z : Int} : o_e g b k z b = o_u (g b) k z := by funext j; simp [o_e, o_u]
def o_mc : Nat → Prop := fun a => a = 193
set_option maxRecDepth 100000 in
set_option maxHeartbeats 4000000 in
/-- in(v, low, high) -/
theorem ct_X12_in {l : Launch} (hl : l.stackTraces = false) (d : Nat) (g : Nat → Nat → Int) (v : Int) (hv : o_R v) (a : Int) (ha : o_R a) (b : Int) (hb : o_R b) : o_Ct l yX12_in wX12_in (d + 1) o_no [.int (o_I v), .int (o_I a), .int (o_I b)] o_N (o_mem g) 0 0 (o_is (some (.int (o_I (o_b (a ≤ v ∧ v ≤ b))))) o_N (o_mem g)) := by
  refine o_Ct.ofV hl mX12_in (by decide +kernel) rfl rfl rfl (Nat.le_of_ble_eq_true rfl) ?_
  obtain ⟨v1, v2⟩ := id hv
  obtain ⟨a1, a2⟩ := id ha
  obtain ⟨b1, b2⟩ := id hb
  refine o_iload_n dX12_in_0 rfl ?_
  refine o_iload_n dX12_in_1 rfl ?_
  refine o_icmp_lt (tgt := 14) dX12_in_2 (by decide) ⟨by omega, by omega⟩ ⟨by omega, by omega⟩ (fun c_2 => ?_) (fun c_2 => ?_)
  · skip
    refine o_iconst dX12_in_14 ?_
    refine o_ret1 dX12_in_15 (by first | exact o_rb0 | exact o_rb1 | exact o_bn _) ?_
    exact o_isB (by simp [o_b]; omega)
  · skip
    refine o_iload_n dX12_in_5 rfl ?_
    refine o_iload_n dX12_in_6 rfl ?_
    refine o_icmp_gt (tgt := 14) dX12_in_7 (by decide) ⟨by omega, by omega⟩ ⟨by omega, by omega⟩ (fun c_7 => ?_) (fun c_7 => ?_)
    · skip
      refine o_iconst dX12_in_14 ?_
      refine o_ret1 dX12_in_15 (by first | exact o_rb0 | exact o_rb1 | exact o_bn _) ?_
      exact o_isB (by simp [o_b]; omega)
    · skip
      refine o_iconst dX12_in_10 ?_
      refine o_goto (tgt := 15) dX12_in_11 (by decide) ?_
      refine o_ret1 dX12_in_15 (by first | exact o_rb0 | exact o_rb1 | exact o_bn _) ?_
      exact o_isB (by simp [o_b]; omega)
set_option maxRecDepth 100000 in
set_option maxHeartbeats 4000000 in
/-- isShip(i) -/
theorem ct_X12_isShip {l : Launch} (hl : l.stackTraces = false) (d : Nat) (g : Nat → Nat → Int) (M : Nat → Nat → Int) (hsr : o_sr (g 193) M) (hwk : o_wk M) (i : Int) (hi : o_R i) : o_Ct l yX12_isShip wX12_isShip (d + 2) o_no [.ref 192, .int (o_I i)] o_N (o_mem g) 0 0 (o_is (some (.int (o_I (o_b (0 ≤ i ∧ i < M 0 0))))) o_N (o_mem g)) := by
  refine o_Ct.ofV hl mX12_isShip (by decide +kernel) rfl rfl rfl (Nat.le_of_ble_eq_true rfl) ?_
  obtain ⟨⟨hr0, hr1, hr2, hr3, hr4, hr5, hr6⟩, hrs, hrl, hrq⟩ := id hsr
  obtain ⟨hws, hwl, hwq, hwo, hwle, hwrq, hwrd⟩ := id hwk
  obtain ⟨hw1, hw2, hw3⟩ := id hws
  obtain ⟨hw4, hw5, hw6, hw7, hw8⟩ := id hwl
  obtain ⟨hw9, hw10, hw11⟩ := id hwq
  obtain ⟨i1, i2⟩ := id hi
  refine o_iload_n dX12_isShip_0 rfl ?_
  refine o_iconst dX12_isShip_1 ?_
  refine o_aload_n dX12_isShip_2 rfl ?_
  refine o_gf dX12_isShip_3 fl_X12_9 rfl (by decide) rfl ?_
  refine o_iconst dX12_isShip_6 ?_
  refine o_ialdn (j := 0) dX12_isShip_7 (by decide) rfl (by decide) (by first | rfl | omega) (by omega) ?_
  rw [hr0]
  refine o_iconst dX12_isShip_8 ?_
  refine o_isub dX12_isShip_9 ?_
  refine o_cS _ (ct_X12_in hl d g i hi 0 ⟨by omega, by omega⟩ (M 0 0 - 1) ⟨by omega, by omega⟩) dX12_isShip_10 ml_X12_54 ys_X12_in rfl (by decide) (by omega) rfl (Nat.le_of_ble_eq_true rfl) ?_
  refine o_ret1 dX12_isShip_13 (by first | exact o_rb0 | exact o_rb1 | exact o_bn _) ?_
  rw [show o_b (0 ≤ i ∧ i ≤ M 0 0 - 1) = o_b (0 ≤ i ∧ i < M 0 0) from o_bc ⟨fun q => by omega, fun q => by omega⟩]
  exact ⟨rfl, rfl, rfl⟩
set_option maxRecDepth 100000 in
set_option maxHeartbeats 4000000 in
/-- isLamp(i) -/
theorem ct_X12_isLamp {l : Launch} (hl : l.stackTraces = false) (d : Nat) (g : Nat → Nat → Int) (M : Nat → Nat → Int) (hsr : o_sr (g 193) M) (hwk : o_wk M) (i : Int) (hi : o_R i) : o_Ct l yX12_isLamp wX12_isLamp (d + 2) o_no [.ref 192, .int (o_I i)] o_N (o_mem g) 0 0 (o_is (some (.int (o_I (o_b (0 ≤ i ∧ i < M 0 1))))) o_N (o_mem g)) := by
  refine o_Ct.ofV hl mX12_isLamp (by decide +kernel) rfl rfl rfl (Nat.le_of_ble_eq_true rfl) ?_
  obtain ⟨⟨hr0, hr1, hr2, hr3, hr4, hr5, hr6⟩, hrs, hrl, hrq⟩ := id hsr
  obtain ⟨hws, hwl, hwq, hwo, hwle, hwrq, hwrd⟩ := id hwk
  obtain ⟨hw1, hw2, hw3⟩ := id hws
  obtain ⟨hw4, hw5, hw6, hw7, hw8⟩ := id hwl
  obtain ⟨hw9, hw10, hw11⟩ := id hwq
  obtain ⟨i1, i2⟩ := id hi
  refine o_iload_n dX12_isLamp_0 rfl ?_
  refine o_iconst dX12_isLamp_1 ?_
  refine o_aload_n dX12_isLamp_2 rfl ?_
  refine o_gf dX12_isLamp_3 fl_X12_9 rfl (by decide) rfl ?_
  refine o_iconst dX12_isLamp_6 ?_
  refine o_ialdn (j := 1) dX12_isLamp_7 (by decide) rfl (by decide) (by first | rfl | omega) (by omega) ?_
  rw [hr1]
  refine o_iconst dX12_isLamp_8 ?_
  refine o_isub dX12_isLamp_9 ?_
  refine o_cS _ (ct_X12_in hl d g i hi 0 ⟨by omega, by omega⟩ (M 0 1 - 1) ⟨by omega, by omega⟩) dX12_isLamp_10 ml_X12_54 ys_X12_in rfl (by decide) (by omega) rfl (Nat.le_of_ble_eq_true rfl) ?_
  refine o_ret1 dX12_isLamp_13 (by first | exact o_rb0 | exact o_rb1 | exact o_bn _) ?_
  rw [show o_b (0 ≤ i ∧ i ≤ M 0 1 - 1) = o_b (0 ≤ i ∧ i < M 0 1) from o_bc ⟨fun q => by omega, fun q => by omega⟩]
  exact ⟨rfl, rfl, rfl⟩
set_option maxRecDepth 100000 in
set_option maxHeartbeats 4000000 in
/-- isRequest(i) -/
theorem ct_X12_isRequest {l : Launch} (hl : l.stackTraces = false) (d : Nat) (g : Nat → Nat → Int) (M : Nat → Nat → Int) (hsr : o_sr (g 193) M) (hwk : o_wk M) (i : Int) (hi : o_R i) : o_Ct l yX12_isRequest wX12_isRequest (d + 2) o_no [.ref 192, .int (o_I i)] o_N (o_mem g) 0 0 (o_is (some (.int (o_I (o_b (0 ≤ i ∧ i < M 0 6))))) o_N (o_mem g)) := by
  refine o_Ct.ofV hl mX12_isRequest (by decide +kernel) rfl rfl rfl (Nat.le_of_ble_eq_true rfl) ?_
  obtain ⟨⟨hr0, hr1, hr2, hr3, hr4, hr5, hr6⟩, hrs, hrl, hrq⟩ := id hsr
  obtain ⟨hws, hwl, hwq, hwo, hwle, hwrq, hwrd⟩ := id hwk
  obtain ⟨hw1, hw2, hw3⟩ := id hws
  obtain ⟨hw4, hw5, hw6, hw7, hw8⟩ := id hwl
  obtain ⟨hw9, hw10, hw11⟩ := id hwq
  obtain ⟨i1, i2⟩ := id hi
  refine o_iload_n dX12_isRequest_0 rfl ?_
  refine o_iconst dX12_isRequest_1 ?_
  refine o_aload_n dX12_isRequest_2 rfl ?_
  refine o_gf dX12_isRequest_3 fl_X12_9 rfl (by decide) rfl ?_
  refine o_bipush dX12_isRequest_6 (by decide) ?_
  refine o_ialdn (j := 6) dX12_isRequest_8 (by decide) rfl (by decide) (by first | rfl | omega) (by omega) ?_
  rw [hr6]
  refine o_iconst dX12_isRequest_9 ?_
  refine o_isub dX12_isRequest_10 ?_
  refine o_cS _ (ct_X12_in hl d g i hi 0 ⟨by omega, by omega⟩ (M 0 6 - 1) ⟨by omega, by omega⟩) dX12_isRequest_11 ml_X12_54 ys_X12_in rfl (by decide) (by omega) rfl (Nat.le_of_ble_eq_true rfl) ?_
  refine o_ret1 dX12_isRequest_14 (by first | exact o_rb0 | exact o_rb1 | exact o_bn _) ?_
  rw [show o_b (0 ≤ i ∧ i ≤ M 0 6 - 1) = o_b (0 ≤ i ∧ i < M 0 6) from o_bc ⟨fun q => by omega, fun q => by omega⟩]
  exact ⟨rfl, rfl, rfl⟩
set_option maxRecDepth 100000 in
set_option maxHeartbeats 4000000 in
/-- ofShip(i, w) -/
theorem ct_X12_ofShip {l : Launch} (hl : l.stackTraces = false) (d : Nat) (g : Nat → Nat → Int) (i w : Nat) (hi : i < 6) (hw : w < 3) : o_Ct l yX12_ofShip wX12_ofShip (d + 1) o_no [.ref 192, .int (o_I (i : Int)), .int (o_I (w : Int))] o_N (o_mem g) 0 0 (o_is (some (.int (o_I (g 193 (7 + 3 * i + w))))) o_N (o_mem g)) := by
  refine o_Ct.ofV hl mX12_ofShip (by decide +kernel) rfl rfl rfl (Nat.le_of_ble_eq_true rfl) ?_
  refine o_aload_n dX12_ofShip_0 rfl ?_
  refine o_gf dX12_ofShip_1 fl_X12_9 rfl (by decide) rfl ?_
  refine o_bipush dX12_ofShip_4 (by decide) ?_
  refine o_iconst dX12_ofShip_6 ?_
  refine o_iload_n dX12_ofShip_7 rfl ?_
  refine o_imul dX12_ofShip_8 ?_
  refine o_iadd dX12_ofShip_9 ?_
  refine o_iload_n dX12_ofShip_10 rfl ?_
  refine o_iadd dX12_ofShip_11 ?_
  refine o_ialdn (j := (7 + 3 * i + w)) dX12_ofShip_12 (by decide) rfl (by decide) (by first | rfl | omega) (by omega) ?_
  refine o_ret1 dX12_ofShip_13 trivial ?_
  exact ⟨rfl, rfl, rfl⟩
set_option maxRecDepth 100000 in
set_option maxHeartbeats 4000000 in
/-- of(i, w) -/
theorem ct_X12_of {l : Launch} (hl : l.stackTraces = false) (d : Nat) (g : Nat → Nat → Int) (i w : Nat) (hi : i < 8) (hw : w < 5) : o_Ct l yX12_of wX12_of (d + 1) o_no [.ref 192, .int (o_I (i : Int)), .int (o_I (w : Int))] o_N (o_mem g) 0 0 (o_is (some (.int (o_I (g 193 (25 + 5 * i + w))))) o_N (o_mem g)) := by
  refine o_Ct.ofV hl mX12_of (by decide +kernel) rfl rfl rfl (Nat.le_of_ble_eq_true rfl) ?_
  refine o_aload_n dX12_of_0 rfl ?_
  refine o_gf dX12_of_1 fl_X12_9 rfl (by decide) rfl ?_
  refine o_bipush dX12_of_4 (by decide) ?_
  refine o_iconst dX12_of_6 ?_
  refine o_iload_n dX12_of_7 rfl ?_
  refine o_imul dX12_of_8 ?_
  refine o_iadd dX12_of_9 ?_
  refine o_iload_n dX12_of_10 rfl ?_
  refine o_iadd dX12_of_11 ?_
  refine o_ialdn (j := (25 + 5 * i + w)) dX12_of_12 (by decide) rfl (by decide) (by first | rfl | omega) (by omega) ?_
  refine o_ret1 dX12_of_13 trivial ?_
  exact ⟨rfl, rfl, rfl⟩
set_option maxRecDepth 100000 in
set_option maxHeartbeats 4000000 in
/-- sets(i, w, v) -/
theorem ct_X12_sets {l : Launch} (hl : l.stackTraces = false) (d : Nat) (g : Nat → Nat → Int) (i w : Nat) (hi : i < 8) (hw : w < 5) (v : Int) : o_Ct l yX12_sets wX12_sets (d + 1) o_no [.ref 192, .int (o_I (i : Int)), .int (o_I (w : Int)), .int (o_I v)] o_N (o_mem g) 0 0 (o_mt (none) (fun g' => g' = o_e g 193 (25 + 5 * i + w) v)) := by
  refine o_Ct.ofV hl mX12_sets (by decide +kernel) rfl rfl rfl (Nat.le_of_ble_eq_true rfl) ?_
  refine o_aload_n dX12_sets_0 rfl ?_
  refine o_gf dX12_sets_1 fl_X12_9 rfl (by decide) rfl ?_
  refine o_bipush dX12_sets_4 (by decide) ?_
  refine o_iconst dX12_sets_6 ?_
  refine o_iload_n dX12_sets_7 rfl ?_
  refine o_imul dX12_sets_8 ?_
  refine o_iadd dX12_sets_9 ?_
  refine o_iload_n dX12_sets_10 rfl ?_
  refine o_iadd dX12_sets_11 ?_
  refine o_iload_n dX12_sets_12 rfl ?_
  refine o_iaEn (j := (25 + 5 * i + w)) dX12_sets_13 rfl (by decide) (by decide) (by first | rfl | omega) (by omega) (fun _ => rfl) (by decide) (fun g_13 e_13 => ?_)
  refine o_ret0 dX12_sets_14 trivial ?_
  exact o_mt0 e_13
set_option maxRecDepth 100000 in
set_option maxHeartbeats 4000000 in
/-- isOut(i) -/
theorem ct_X12_isOut {l : Launch} (hl : l.stackTraces = false) (d : Nat) (g : Nat → Nat → Int) (M : Nat → Nat → Int) (hsr : o_sr (g 193) M) (hwk : o_wk M) (i : Nat) (hi : (i : Int) < M 0 1) : o_Ct l yX12_isOut wX12_isOut (d + 2) o_no [.ref 192, .int (o_I (i : Int))] o_N (o_mem g) 0 0 (o_is (some (.int (o_I (o_b (0 < M 5 i))))) o_N (o_mem g)) := by
  refine o_Ct.ofV hl mX12_isOut (by decide +kernel) rfl rfl rfl (Nat.le_of_ble_eq_true rfl) ?_
  obtain ⟨⟨hr0, hr1, hr2, hr3, hr4, hr5, hr6⟩, hrs, hrl, hrq⟩ := id hsr
  obtain ⟨hws, hwl, hwq, hwo, hwle, hwrq, hwrd⟩ := id hwk
  obtain ⟨hw1, hw2, hw3⟩ := id hws
  obtain ⟨hw4, hw5, hw6, hw7, hw8⟩ := id hwl
  obtain ⟨hw9, hw10, hw11⟩ := id hwq
  refine o_aload_n dX12_isOut_0 rfl ?_
  refine o_iload_n dX12_isOut_1 rfl ?_
  refine o_iconst dX12_isOut_2 ?_
  refine o_cV _ (ct_X12_of hl d g i 1 (by omega) (by decide)) dX12_isOut_3 ml_X12_58 yw_X12_of rfl (by decide) (by omega) (by decide) rfl rfl rfl (Nat.le_of_ble_eq_true rfl) ?_
  rw [(hrl i hi).2.1]
  have hb8 := hw8 i hi
  refine o_if_le (tgt := 13) dX12_isOut_6 (by decide) ⟨by omega, by omega⟩ (fun c_6 => ?_) (fun c_6 => ?_)
  · skip
    refine o_iconst dX12_isOut_13 ?_
    refine o_ret1 dX12_isOut_14 (by first | exact o_rb0 | exact o_rb1 | exact o_bn _) ?_
    first
      | (rw [o_b1 (by omega)]; exact ⟨rfl, rfl, rfl⟩)
      | (rw [o_b0 (by omega)]; exact ⟨rfl, rfl, rfl⟩)
  · skip
    refine o_iconst dX12_isOut_9 ?_
    refine o_goto (tgt := 14) dX12_isOut_10 (by decide) ?_
    refine o_ret1 dX12_isOut_14 (by first | exact o_rb0 | exact o_rb1 | exact o_bn _) ?_
    first
      | (rw [o_b1 (by omega)]; exact ⟨rfl, rfl, rfl⟩)
      | (rw [o_b0 (by omega)]; exact ⟨rfl, rfl, rfl⟩)
set_option maxRecDepth 100000 in
set_option maxHeartbeats 4000000 in
/-- fails(k) -/
theorem ct_X12_fails {l : Launch} (hl : l.stackTraces = false) (d : Nat) (g : Nat → Nat → Int) (k : Int) : o_Ct l yX12_fails wX12_fails (d + 1) o_no [.ref 192, .int (o_I k)] o_N (o_mem g) 0 0 (o_mt (some (.int (o_I (0)))) (fun g' => g' = o_e g 192 7 k)) := by
  refine o_Ct.ofV hl mX12_fails (by decide +kernel) rfl rfl rfl (Nat.le_of_ble_eq_true rfl) ?_
  refine o_aload_n dX12_fails_0 rfl ?_
  refine o_iload_n dX12_fails_1 rfl ?_
  refine o_pmE dX12_fails_2 fp_X12_42 rfl (by decide) (Nat.le_of_ble_eq_true rfl) rfl rfl (fun _ => rfl) (by decide) (fun g_2 e_2 => ?_)
  refine o_iconst dX12_fails_5 ?_
  refine o_ret1 dX12_fails_6 trivial ?_
  exact o_mtI rfl e_2
set_option maxRecDepth 100000 in
set_option maxHeartbeats 4000000 in
/-- isThere(p) -/
theorem ct_X12_isThere {l : Launch} (hl : l.stackTraces = false) (d : Nat) (g : Nat → Nat → Int) (p : Prop) [Decidable p] : o_Ct l yX12_isThere wX12_isThere (d + 1) o_no [.ref 192, .int (o_I (o_b p))] o_N (o_mem g) 0 0 (o_mt (some (.int (o_I (o_b p)))) (fun g' => g' = o_e g 192 7 (1 - o_b p))) := by
  refine o_Ct.ofV hl mX12_isThere (by decide +kernel) rfl rfl rfl (Nat.le_of_ble_eq_true rfl) ?_
  refine o_aload_n dX12_isThere_0 rfl ?_
  refine o_iload_n dX12_isThere_1 rfl ?_
  refine o_ifb_eq (tgt := 9) dX12_isThere_2 (by decide) (fun c_2 => ?_) (fun c_2 => ?_)
  · skip
    refine o_iconst dX12_isThere_9 ?_
    refine o_pmE dX12_isThere_10 fp_X12_42 rfl (by decide) (Nat.le_of_ble_eq_true rfl) rfl rfl (fun _ => rfl) (by decide) (fun g_10 e_10 => ?_)
    refine o_iload_n dX12_isThere_13 rfl ?_
    refine o_ret1 dX12_isThere_14 (by first | exact o_rb0 | exact o_rb1 | exact o_bn _) ?_
    first
      | exact ⟨rfl, rfl, _, rfl, by rw [e_10, o_b1 c_2]; rfl⟩
      | exact ⟨rfl, rfl, _, rfl, by rw [e_10, o_b0 c_2]; rfl⟩
  · skip
    refine o_iconst dX12_isThere_5 ?_
    refine o_goto (tgt := 10) dX12_isThere_6 (by decide) ?_
    refine o_pmE dX12_isThere_10 fp_X12_42 rfl (by decide) (Nat.le_of_ble_eq_true rfl) rfl rfl (fun _ => rfl) (by decide) (fun g_10 e_10 => ?_)
    refine o_iload_n dX12_isThere_13 rfl ?_
    refine o_ret1 dX12_isThere_14 (by first | exact o_rb0 | exact o_rb1 | exact o_bn _) ?_
    first
      | exact ⟨rfl, rfl, _, rfl, by rw [e_10, o_b1 c_2]; rfl⟩
      | exact ⟨rfl, rfl, _, rfl, by rw [e_10, o_b0 c_2]; rfl⟩
