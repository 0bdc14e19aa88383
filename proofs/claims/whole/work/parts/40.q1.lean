/-! the reference's questions: an answer, or an exception -/
def r_q (p : Prop) [Decidable p] (v : Int) (g : Nat → Nat → Int) : o_P := o_mt (some (.int (o_I (if p then v else 0)))) (fun g' => g' = o_e g 192 7 (1 - o_b p))
theorem r_qN {p : Prop} [Decidable p] {v : Int} {g g' : Nat → Nat → Int} (hp : ¬ p) (h : g' = o_e g 192 7 (1 - o_b p)) : r_q p v g (.inl (some (.int (o_I 0)))) o_N (o_mem g') := by
  unfold r_q
  rw [if_neg hp]
  exact o_mtI rfl h
theorem r_qY {p : Prop} [Decidable p] {v z : Int} {g g' : Nat → Nat → Int} (hp : p) (e : v = z) (h : g' = o_e g 192 7 (1 - o_b p)) : r_q p v g (.inl (some (.int (o_I z)))) o_N (o_mem g') := by
  unfold r_q
  rw [if_pos hp]
  exact o_mtI e h
theorem r_qT {v z : Int} {g g' : Nat → Nat → Int} (e : v = z) (h : g' = o_e g 192 7 0) : r_q True v g (.inl (some (.int (o_I z)))) o_N (o_mem g') := r_qY trivial e (by rw [o_b1 trivial]; exact h)
/-- an answer, or the place of an exception -/
def r_k (k v : Int) (g : Nat → Nat → Int) : o_P := o_mt (some (.int (o_I (if k = 0 then v else 0)))) (fun g' => g' = o_e g 192 7 k)
theorem r_kN {k v : Int} {g g' : Nat → Nat → Int} (hk : k ≠ 0) (h : g' = o_e g 192 7 k) : r_k k v g (.inl (some (.int (o_I 0)))) o_N (o_mem g') := by
  unfold r_k
  rw [if_neg hk]
  exact o_mtI rfl h
theorem r_kY {k v z : Int} {g g' : Nat → Nat → Int} (hk : k = 0) (e : v = z) (h : g' = o_e g 192 7 k) : r_k k v g (.inl (some (.int (o_I z)))) o_N (o_mem g') := by
  unfold r_k
  rw [if_pos hk]
  exact o_mtI e h
theorem sr_n {g g' M : Nat → Nat → Int} {t : Int} (h : o_sr (g 193) M) (e : g' = o_e g 192 7 t) : o_sr (g' 193) M := by rw [e, o_e_n (by decide)]; exact h
set_option maxRecDepth 100000 in
set_option maxHeartbeats 4000000 in
/-- hour() -/
theorem ct_X12_hour {l : Launch} (hl : l.stackTraces = false) (d : Nat) (g : Nat → Nat → Int) (M : Nat → Nat → Int) (hsr : o_sr (g 193) M) : o_Ct l yX12_hour wX12_hour (d + 1) o_no [.ref 192] o_N (o_mem g) 0 0 (r_q True (M 0 3) g) := by
  refine o_Ct.ofV hl mX12_hour (by decide +kernel) rfl rfl rfl (Nat.le_of_ble_eq_true rfl) ?_
  obtain ⟨⟨hr0, hr1, hr2, hr3, hr4, hr5, hr6⟩, hrs, hrl, hrq⟩ := id hsr
  refine o_aload_n dX12_hour_0 rfl ?_
  refine o_iconst dX12_hour_1 ?_
  refine o_pmE dX12_hour_2 fp_X12_42 rfl (by decide) (Nat.le_of_ble_eq_true rfl) rfl rfl (fun _ => rfl) (by decide) (fun g_2 e_2 => ?_)
  refine o_aload_n dX12_hour_5 rfl ?_
  refine o_gf dX12_hour_6 fl_X12_9 rfl (by decide) rfl ?_
  refine o_iconst dX12_hour_9 ?_
  refine o_ialdn (j := 3) dX12_hour_10 (by decide) rfl (by decide) (by first | rfl | omega) (by omega) ?_
  refine o_ret1 dX12_hour_11 trivial ?_
  exact r_qT (by rw [e_2, o_e_n (by decide)]; exact hr3.symm) e_2
set_option maxRecDepth 100000 in
set_option maxHeartbeats 4000000 in
/-- shipCount() -/
theorem ct_X12_shipCount {l : Launch} (hl : l.stackTraces = false) (d : Nat) (g : Nat → Nat → Int) (M : Nat → Nat → Int) (hsr : o_sr (g 193) M) : o_Ct l yX12_shipCount wX12_shipCount (d + 1) o_no [.ref 192] o_N (o_mem g) 0 0 (r_q True (M 0 0) g) := by
  refine o_Ct.ofV hl mX12_shipCount (by decide +kernel) rfl rfl rfl (Nat.le_of_ble_eq_true rfl) ?_
  obtain ⟨⟨hr0, hr1, hr2, hr3, hr4, hr5, hr6⟩, hrs, hrl, hrq⟩ := id hsr
  refine o_aload_n dX12_shipCount_0 rfl ?_
  refine o_iconst dX12_shipCount_1 ?_
  refine o_pmE dX12_shipCount_2 fp_X12_42 rfl (by decide) (Nat.le_of_ble_eq_true rfl) rfl rfl (fun _ => rfl) (by decide) (fun g_2 e_2 => ?_)
  refine o_aload_n dX12_shipCount_5 rfl ?_
  refine o_gf dX12_shipCount_6 fl_X12_9 rfl (by decide) rfl ?_
  refine o_iconst dX12_shipCount_9 ?_
  refine o_ialdn (j := 0) dX12_shipCount_10 (by decide) rfl (by decide) (by first | rfl | omega) (by omega) ?_
  refine o_ret1 dX12_shipCount_11 trivial ?_
  exact r_qT (by rw [e_2, o_e_n (by decide)]; exact hr0.symm) e_2
set_option maxRecDepth 100000 in
set_option maxHeartbeats 4000000 in
/-- lampCount() -/
theorem ct_X12_lampCount {l : Launch} (hl : l.stackTraces = false) (d : Nat) (g : Nat → Nat → Int) (M : Nat → Nat → Int) (hsr : o_sr (g 193) M) : o_Ct l yX12_lampCount wX12_lampCount (d + 1) o_no [.ref 192] o_N (o_mem g) 0 0 (r_q True (M 0 1) g) := by
  refine o_Ct.ofV hl mX12_lampCount (by decide +kernel) rfl rfl rfl (Nat.le_of_ble_eq_true rfl) ?_
  obtain ⟨⟨hr0, hr1, hr2, hr3, hr4, hr5, hr6⟩, hrs, hrl, hrq⟩ := id hsr
  refine o_aload_n dX12_lampCount_0 rfl ?_
  refine o_iconst dX12_lampCount_1 ?_
  refine o_pmE dX12_lampCount_2 fp_X12_42 rfl (by decide) (Nat.le_of_ble_eq_true rfl) rfl rfl (fun _ => rfl) (by decide) (fun g_2 e_2 => ?_)
  refine o_aload_n dX12_lampCount_5 rfl ?_
  refine o_gf dX12_lampCount_6 fl_X12_9 rfl (by decide) rfl ?_
  refine o_iconst dX12_lampCount_9 ?_
  refine o_ialdn (j := 1) dX12_lampCount_10 (by decide) rfl (by decide) (by first | rfl | omega) (by omega) ?_
  refine o_ret1 dX12_lampCount_11 trivial ?_
  exact r_qT (by rw [e_2, o_e_n (by decide)]; exact hr1.symm) e_2
set_option maxRecDepth 100000 in
set_option maxHeartbeats 4000000 in
/-- oil() -/
theorem ct_X12_oil {l : Launch} (hl : l.stackTraces = false) (d : Nat) (g : Nat → Nat → Int) (M : Nat → Nat → Int) (hsr : o_sr (g 193) M) : o_Ct l yX12_oil wX12_oil (d + 1) o_no [.ref 192] o_N (o_mem g) 0 0 (r_q True (M 0 2) g) := by
  refine o_Ct.ofV hl mX12_oil (by decide +kernel) rfl rfl rfl (Nat.le_of_ble_eq_true rfl) ?_
  obtain ⟨⟨hr0, hr1, hr2, hr3, hr4, hr5, hr6⟩, hrs, hrl, hrq⟩ := id hsr
  refine o_aload_n dX12_oil_0 rfl ?_
  refine o_iconst dX12_oil_1 ?_
  refine o_pmE dX12_oil_2 fp_X12_42 rfl (by decide) (Nat.le_of_ble_eq_true rfl) rfl rfl (fun _ => rfl) (by decide) (fun g_2 e_2 => ?_)
  refine o_aload_n dX12_oil_5 rfl ?_
  refine o_gf dX12_oil_6 fl_X12_9 rfl (by decide) rfl ?_
  refine o_iconst dX12_oil_9 ?_
  refine o_ialdn (j := 2) dX12_oil_10 (by decide) rfl (by decide) (by first | rfl | omega) (by omega) ?_
  refine o_ret1 dX12_oil_11 trivial ?_
  exact r_qT (by rw [e_2, o_e_n (by decide)]; exact hr2.symm) e_2
set_option maxRecDepth 100000 in
set_option maxHeartbeats 4000000 in
/-- requestCount() -/
theorem ct_X12_requestCount {l : Launch} (hl : l.stackTraces = false) (d : Nat) (g : Nat → Nat → Int) (M : Nat → Nat → Int) (hsr : o_sr (g 193) M) : o_Ct l yX12_requestCount wX12_requestCount (d + 1) o_no [.ref 192] o_N (o_mem g) 0 0 (r_q True (M 0 6) g) := by
  refine o_Ct.ofV hl mX12_requestCount (by decide +kernel) rfl rfl rfl (Nat.le_of_ble_eq_true rfl) ?_
  obtain ⟨⟨hr0, hr1, hr2, hr3, hr4, hr5, hr6⟩, hrs, hrl, hrq⟩ := id hsr
  refine o_aload_n dX12_requestCount_0 rfl ?_
  refine o_iconst dX12_requestCount_1 ?_
  refine o_pmE dX12_requestCount_2 fp_X12_42 rfl (by decide) (Nat.le_of_ble_eq_true rfl) rfl rfl (fun _ => rfl) (by decide) (fun g_2 e_2 => ?_)
  refine o_aload_n dX12_requestCount_5 rfl ?_
  refine o_gf dX12_requestCount_6 fl_X12_9 rfl (by decide) rfl ?_
  refine o_bipush dX12_requestCount_9 (by decide) ?_
  refine o_ialdn (j := 6) dX12_requestCount_11 (by decide) rfl (by decide) (by first | rfl | omega) (by omega) ?_
  refine o_ret1 dX12_requestCount_12 trivial ?_
  exact r_qT (by rw [e_2, o_e_n (by decide)]; exact hr6.symm) e_2
set_option maxRecDepth 100000 in
set_option maxHeartbeats 4000000 in
/-- refusedRenewals() -/
theorem ct_X12_refusedRenewals {l : Launch} (hl : l.stackTraces = false) (d : Nat) (g : Nat → Nat → Int) (M : Nat → Nat → Int) (hsr : o_sr (g 193) M) : o_Ct l yX12_refusedRenewals wX12_refusedRenewals (d + 1) o_no [.ref 192] o_N (o_mem g) 0 0 (r_q True (M 0 4) g) := by
  refine o_Ct.ofV hl mX12_refusedRenewals (by decide +kernel) rfl rfl rfl (Nat.le_of_ble_eq_true rfl) ?_
  obtain ⟨⟨hr0, hr1, hr2, hr3, hr4, hr5, hr6⟩, hrs, hrl, hrq⟩ := id hsr
  refine o_aload_n dX12_refusedRenewals_0 rfl ?_
  refine o_iconst dX12_refusedRenewals_1 ?_
  refine o_pmE dX12_refusedRenewals_2 fp_X12_42 rfl (by decide) (Nat.le_of_ble_eq_true rfl) rfl rfl (fun _ => rfl) (by decide) (fun g_2 e_2 => ?_)
  refine o_aload_n dX12_refusedRenewals_5 rfl ?_
  refine o_gf dX12_refusedRenewals_6 fl_X12_9 rfl (by decide) rfl ?_
  refine o_iconst dX12_refusedRenewals_9 ?_
  refine o_ialdn (j := 4) dX12_refusedRenewals_10 (by decide) rfl (by decide) (by first | rfl | omega) (by omega) ?_
  refine o_ret1 dX12_refusedRenewals_11 trivial ?_
  exact r_qT (by rw [e_2, o_e_n (by decide)]; exact hr4.symm) e_2
set_option maxRecDepth 100000 in
set_option maxHeartbeats 4000000 in
/-- officeCoins() -/
theorem ct_X12_officeCoins {l : Launch} (hl : l.stackTraces = false) (d : Nat) (g : Nat → Nat → Int) (M : Nat → Nat → Int) (hsr : o_sr (g 193) M) : o_Ct l yX12_officeCoins wX12_officeCoins (d + 1) o_no [.ref 192] o_N (o_mem g) 0 0 (r_q True (M 0 5) g) := by
  refine o_Ct.ofV hl mX12_officeCoins (by decide +kernel) rfl rfl rfl (Nat.le_of_ble_eq_true rfl) ?_
  obtain ⟨⟨hr0, hr1, hr2, hr3, hr4, hr5, hr6⟩, hrs, hrl, hrq⟩ := id hsr
  refine o_aload_n dX12_officeCoins_0 rfl ?_
  refine o_iconst dX12_officeCoins_1 ?_
  refine o_pmE dX12_officeCoins_2 fp_X12_42 rfl (by decide) (Nat.le_of_ble_eq_true rfl) rfl rfl (fun _ => rfl) (by decide) (fun g_2 e_2 => ?_)
  refine o_aload_n dX12_officeCoins_5 rfl ?_
  refine o_gf dX12_officeCoins_6 fl_X12_9 rfl (by decide) rfl ?_
  refine o_iconst dX12_officeCoins_9 ?_
  refine o_ialdn (j := 5) dX12_officeCoins_10 (by decide) rfl (by decide) (by first | rfl | omega) (by omega) ?_
  refine o_ret1 dX12_officeCoins_11 trivial ?_
  exact r_qT (by rw [e_2, o_e_n (by decide)]; exact hr5.symm) e_2
set_option maxRecDepth 100000 in
set_option maxHeartbeats 4000000 in
/-- leasedLamps() -/
theorem ct_X12_leasedLamps {l : Launch} (hl : l.stackTraces = false) (d : Nat) (g : Nat → Nat → Int) (M : Nat → Nat → Int) (hsr : o_sr (g 193) M) (hwk : o_wk M) : o_Ct l yX12_leasedLamps wX12_leasedLamps (d + 4) o_no [.ref 192] o_N (o_mem g) 0 0 (r_q True (o_sm (fun i => o_b (0 < M 5 i)) (M 0 1).toNat) g) := by
  refine o_Ct.ofV hl mX12_leasedLamps (by decide +kernel) rfl rfl rfl (Nat.le_of_ble_eq_true rfl) ?_
  refine o_aload_n dX12_leasedLamps_0 rfl ?_
  refine o_iconst dX12_leasedLamps_1 ?_
  refine o_pmE dX12_leasedLamps_2 fp_X12_42 rfl (by decide) (Nat.le_of_ble_eq_true rfl) rfl rfl (fun _ => rfl) (by decide) (fun g_2 e_2 => ?_)
  refine o_aload_n dX12_leasedLamps_5 rfl ?_
  refine o_cV _ (ct_X12_leased hl d g_2 M (sr_n hsr e_2) hwk) dX12_leasedLamps_6 ml_X12_151 yw_X12_leased rfl (by decide) (by omega) (by decide) rfl rfl rfl (Nat.le_of_ble_eq_true rfl) ?_
  refine o_ret1 dX12_leasedLamps_9 trivial ?_
  exact r_qT rfl e_2
set_option maxRecDepth 100000 in
set_option maxHeartbeats 4000000 in
/-- consumption() -/
theorem ct_X12_consumption {l : Launch} (hl : l.stackTraces = false) (d : Nat) (g : Nat → Nat → Int) (M : Nat → Nat → Int) (hsr : o_sr (g 193) M) (hwk : o_wk M) : o_Ct l yX12_consumption wX12_consumption (d + 4) o_no [.ref 192] o_N (o_mem g) 0 0 (r_q True (d_all M) g) := by
  refine o_Ct.ofV hl mX12_consumption (by decide +kernel) rfl rfl rfl (Nat.le_of_ble_eq_true rfl) ?_
  refine o_aload_n dX12_consumption_0 rfl ?_
  refine o_iconst dX12_consumption_1 ?_
  refine o_pmE dX12_consumption_2 fp_X12_42 rfl (by decide) (Nat.le_of_ble_eq_true rfl) rfl rfl (fun _ => rfl) (by decide) (fun g_2 e_2 => ?_)
  refine o_aload_n dX12_consumption_5 rfl ?_
  refine o_cV _ (ct_X12_needed hl d g_2 M (sr_n hsr e_2) hwk) dX12_consumption_6 ml_X12_154 yw_X12_needed rfl (by decide) (by omega) (by decide) rfl rfl rfl (Nat.le_of_ble_eq_true rfl) ?_
  refine o_ret1 dX12_consumption_9 trivial ?_
  exact r_qT rfl e_2
set_option maxRecDepth 100000 in
set_option maxHeartbeats 4000000 in
/-- coins(i) -/
theorem ct_X12_coins {l : Launch} (hl : l.stackTraces = false) (d : Nat) (g : Nat → Nat → Int) (M : Nat → Nat → Int) (hsr : o_sr (g 193) M) (hwk : o_wk M) (i : Int) (hi : o_R i) : o_Ct l yX12_coins wX12_coins (d + 4) o_no [.ref 192, .int (o_I i)] o_N (o_mem g) 0 0 (r_q (0 ≤ i ∧ i < M 0 0) (M 1 i.toNat) g) := by
  refine o_Ct.ofV hl mX12_coins (by decide +kernel) rfl rfl rfl (Nat.le_of_ble_eq_true rfl) ?_
  obtain ⟨⟨hr0, hr1, hr2, hr3, hr4, hr5, hr6⟩, hrs, hrl, hrq⟩ := id hsr
  obtain ⟨hws, hwl, hwq, hwo, hwle, hwrq, hwrd⟩ := id hwk
  obtain ⟨hw1, hw2, hw3⟩ := id hws
  obtain ⟨hw4, hw5, hw6, hw7, hw8⟩ := id hwl
  obtain ⟨hw9, hw10, hw11⟩ := id hwq
  obtain ⟨i1, i2⟩ := id hi
  refine o_aload_n dX12_coins_0 rfl ?_
  refine o_aload_n dX12_coins_1 rfl ?_
  refine o_iload_n dX12_coins_2 rfl ?_
  refine o_cV _ (ct_X12_isShip hl d g M hsr hwk i hi) dX12_coins_3 ml_X12_89 yw_X12_isShip rfl (by decide) (by omega) (by decide) rfl rfl rfl (Nat.le_of_ble_eq_true rfl) ?_
  refine o_cVm _ (ct_X12_isThere hl d g (0 ≤ i ∧ i < M 0 0)) dX12_coins_6 ml_X12_144 yw_X12_isThere rfl (by decide) (by omega) (by decide) rfl rfl rfl (Nat.le_of_ble_eq_true rfl) (fun g_6 q_6 => ?_)
  refine o_ifb_eq (tgt := 21) dX12_coins_9 (by decide) (fun c_9 => ?_) (fun c_9 => ?_)
  · skip
    refine o_iconst dX12_coins_21 ?_
    refine o_ret1 dX12_coins_22 trivial ?_
    exact r_qN c_9 q_6
  · skip
    obtain ⟨j, rfl⟩ : ∃ j : Nat, (j : Int) = i := ⟨i.toNat, by omega⟩
    have hj : (j : Int) < M 0 0 := by omega
    have hs6 := sr_n hsr q_6
    have hjs := hs6.2.1 j hj
    refine o_aload_n dX12_coins_12 rfl ?_
    refine o_iload_n dX12_coins_13 rfl ?_
    refine o_iconst dX12_coins_14 ?_
    refine o_cV _ (ct_X12_ofShip hl d g_6 j 0 (by omega) (by decide)) dX12_coins_15 ml_X12_99 yw_X12_ofShip rfl (by decide) (by omega) (by decide) rfl rfl rfl (Nat.le_of_ble_eq_true rfl) ?_
    refine o_goto (tgt := 22) dX12_coins_18 (by decide) ?_
    refine o_ret1 dX12_coins_22 trivial ?_
    exact r_qY c_9 (by simp only [Int.toNat_natCast]; exact (hjs.1).symm) q_6
set_option maxRecDepth 100000 in
set_option maxHeartbeats 4000000 in
/-- finesPaid(i) -/
theorem ct_X12_finesPaid {l : Launch} (hl : l.stackTraces = false) (d : Nat) (g : Nat → Nat → Int) (M : Nat → Nat → Int) (hsr : o_sr (g 193) M) (hwk : o_wk M) (i : Int) (hi : o_R i) : o_Ct l yX12_finesPaid wX12_finesPaid (d + 4) o_no [.ref 192, .int (o_I i)] o_N (o_mem g) 0 0 (r_q (0 ≤ i ∧ i < M 0 0) (M 2 i.toNat) g) := by
  refine o_Ct.ofV hl mX12_finesPaid (by decide +kernel) rfl rfl rfl (Nat.le_of_ble_eq_true rfl) ?_
  obtain ⟨⟨hr0, hr1, hr2, hr3, hr4, hr5, hr6⟩, hrs, hrl, hrq⟩ := id hsr
  obtain ⟨hws, hwl, hwq, hwo, hwle, hwrq, hwrd⟩ := id hwk
  obtain ⟨hw1, hw2, hw3⟩ := id hws
  obtain ⟨hw4, hw5, hw6, hw7, hw8⟩ := id hwl
  obtain ⟨hw9, hw10, hw11⟩ := id hwq
  obtain ⟨i1, i2⟩ := id hi
  refine o_aload_n dX12_finesPaid_0 rfl ?_
  refine o_aload_n dX12_finesPaid_1 rfl ?_
  refine o_iload_n dX12_finesPaid_2 rfl ?_
  refine o_cV _ (ct_X12_isShip hl d g M hsr hwk i hi) dX12_finesPaid_3 ml_X12_89 yw_X12_isShip rfl (by decide) (by omega) (by decide) rfl rfl rfl (Nat.le_of_ble_eq_true rfl) ?_
  refine o_cVm _ (ct_X12_isThere hl d g (0 ≤ i ∧ i < M 0 0)) dX12_finesPaid_6 ml_X12_144 yw_X12_isThere rfl (by decide) (by omega) (by decide) rfl rfl rfl (Nat.le_of_ble_eq_true rfl) (fun g_6 q_6 => ?_)
  refine o_ifb_eq (tgt := 21) dX12_finesPaid_9 (by decide) (fun c_9 => ?_) (fun c_9 => ?_)
  · skip
    refine o_iconst dX12_finesPaid_21 ?_
    refine o_ret1 dX12_finesPaid_22 trivial ?_
    exact r_qN c_9 q_6
  · skip
    obtain ⟨j, rfl⟩ : ∃ j : Nat, (j : Int) = i := ⟨i.toNat, by omega⟩
    have hj : (j : Int) < M 0 0 := by omega
    have hs6 := sr_n hsr q_6
    have hjs := hs6.2.1 j hj
    refine o_aload_n dX12_finesPaid_12 rfl ?_
    refine o_iload_n dX12_finesPaid_13 rfl ?_
    refine o_iconst dX12_finesPaid_14 ?_
    refine o_cV _ (ct_X12_ofShip hl d g_6 j 1 (by omega) (by decide)) dX12_finesPaid_15 ml_X12_99 yw_X12_ofShip rfl (by decide) (by omega) (by decide) rfl rfl rfl (Nat.le_of_ble_eq_true rfl) ?_
    refine o_goto (tgt := 22) dX12_finesPaid_18 (by decide) ?_
    refine o_ret1 dX12_finesPaid_22 trivial ?_
    exact r_qY c_9 (by simp only [Int.toNat_natCast]; exact (hjs.2.1).symm) q_6
set_option maxRecDepth 100000 in
set_option maxHeartbeats 4000000 in
/-- darkHours(i) -/
theorem ct_X12_darkHours {l : Launch} (hl : l.stackTraces = false) (d : Nat) (g : Nat → Nat → Int) (M : Nat → Nat → Int) (hsr : o_sr (g 193) M) (hwk : o_wk M) (i : Int) (hi : o_R i) : o_Ct l yX12_darkHours wX12_darkHours (d + 4) o_no [.ref 192, .int (o_I i)] o_N (o_mem g) 0 0 (r_q (0 ≤ i ∧ i < M 0 0) (M 3 i.toNat) g) := by
  refine o_Ct.ofV hl mX12_darkHours (by decide +kernel) rfl rfl rfl (Nat.le_of_ble_eq_true rfl) ?_
  obtain ⟨⟨hr0, hr1, hr2, hr3, hr4, hr5, hr6⟩, hrs, hrl, hrq⟩ := id hsr
  obtain ⟨hws, hwl, hwq, hwo, hwle, hwrq, hwrd⟩ := id hwk
  obtain ⟨hw1, hw2, hw3⟩ := id hws
  obtain ⟨hw4, hw5, hw6, hw7, hw8⟩ := id hwl
  obtain ⟨hw9, hw10, hw11⟩ := id hwq
  obtain ⟨i1, i2⟩ := id hi
  refine o_aload_n dX12_darkHours_0 rfl ?_
  refine o_aload_n dX12_darkHours_1 rfl ?_
  refine o_iload_n dX12_darkHours_2 rfl ?_
  refine o_cV _ (ct_X12_isShip hl d g M hsr hwk i hi) dX12_darkHours_3 ml_X12_89 yw_X12_isShip rfl (by decide) (by omega) (by decide) rfl rfl rfl (Nat.le_of_ble_eq_true rfl) ?_
  refine o_cVm _ (ct_X12_isThere hl d g (0 ≤ i ∧ i < M 0 0)) dX12_darkHours_6 ml_X12_144 yw_X12_isThere rfl (by decide) (by omega) (by decide) rfl rfl rfl (Nat.le_of_ble_eq_true rfl) (fun g_6 q_6 => ?_)
  refine o_ifb_eq (tgt := 21) dX12_darkHours_9 (by decide) (fun c_9 => ?_) (fun c_9 => ?_)
  · skip
    refine o_iconst dX12_darkHours_21 ?_
    refine o_ret1 dX12_darkHours_22 trivial ?_
    exact r_qN c_9 q_6
  · skip
    obtain ⟨j, rfl⟩ : ∃ j : Nat, (j : Int) = i := ⟨i.toNat, by omega⟩
    have hj : (j : Int) < M 0 0 := by omega
    have hs6 := sr_n hsr q_6
    have hjs := hs6.2.1 j hj
    refine o_aload_n dX12_darkHours_12 rfl ?_
    refine o_iload_n dX12_darkHours_13 rfl ?_
    refine o_iconst dX12_darkHours_14 ?_
    refine o_cV _ (ct_X12_ofShip hl d g_6 j 2 (by omega) (by decide)) dX12_darkHours_15 ml_X12_99 yw_X12_ofShip rfl (by decide) (by omega) (by decide) rfl rfl rfl (Nat.le_of_ble_eq_true rfl) ?_
    refine o_goto (tgt := 22) dX12_darkHours_18 (by decide) ?_
    refine o_ret1 dX12_darkHours_22 trivial ?_
    exact r_qY c_9 (by simp only [Int.toNat_natCast]; exact (hjs.2.2).symm) q_6
set_option maxRecDepth 100000 in
set_option maxHeartbeats 4000000 in
/-- demand(i) -/
theorem ct_X12_demand {l : Launch} (hl : l.stackTraces = false) (d : Nat) (g : Nat → Nat → Int) (M : Nat → Nat → Int) (hsr : o_sr (g 193) M) (hwk : o_wk M) (i : Int) (hi : o_R i) : o_Ct l yX12_demand wX12_demand (d + 4) o_no [.ref 192, .int (o_I i)] o_N (o_mem g) 0 0 (r_q (0 ≤ i ∧ i < M 0 0) (d_of M i) g) := by
  refine o_Ct.ofV hl mX12_demand (by decide +kernel) rfl rfl rfl (Nat.le_of_ble_eq_true rfl) ?_
  obtain ⟨⟨hr0, hr1, hr2, hr3, hr4, hr5, hr6⟩, hrs, hrl, hrq⟩ := id hsr
  obtain ⟨hws, hwl, hwq, hwo, hwle, hwrq, hwrd⟩ := id hwk
  obtain ⟨hw1, hw2, hw3⟩ := id hws
  obtain ⟨hw4, hw5, hw6, hw7, hw8⟩ := id hwl
  obtain ⟨hw9, hw10, hw11⟩ := id hwq
  obtain ⟨i1, i2⟩ := id hi
  refine o_aload_n dX12_demand_0 rfl ?_
  refine o_aload_n dX12_demand_1 rfl ?_
  refine o_iload_n dX12_demand_2 rfl ?_
  refine o_cV _ (ct_X12_isShip hl d g M hsr hwk i hi) dX12_demand_3 ml_X12_89 yw_X12_isShip rfl (by decide) (by omega) (by decide) rfl rfl rfl (Nat.le_of_ble_eq_true rfl) ?_
  refine o_cVm _ (ct_X12_isThere hl d g (0 ≤ i ∧ i < M 0 0)) dX12_demand_6 ml_X12_144 yw_X12_isThere rfl (by decide) (by omega) (by decide) rfl rfl rfl (Nat.le_of_ble_eq_true rfl) (fun g_6 q_6 => ?_)
  refine o_ifb_eq (tgt := 20) dX12_demand_9 (by decide) (fun c_9 => ?_) (fun c_9 => ?_)
  · skip
    refine o_iconst dX12_demand_20 ?_
    refine o_ret1 dX12_demand_21 trivial ?_
    exact r_qN c_9 q_6
  · skip
    obtain ⟨j, rfl⟩ : ∃ j : Nat, (j : Int) = i := ⟨i.toNat, by omega⟩
    have hj : (j : Int) < M 0 0 := by omega
    have hs6 := sr_n hsr q_6
    have hjs := hs6.2.1 j hj
    refine o_aload_n dX12_demand_12 rfl ?_
    refine o_iload_n dX12_demand_13 rfl ?_
    refine o_cV _ (ct_X12_wants hl d g_6 M hs6 hwk j hj) dX12_demand_14 ml_X12_148 yw_X12_wants rfl (by decide) (by omega) (by decide) rfl rfl rfl (Nat.le_of_ble_eq_true rfl) ?_
    refine o_goto (tgt := 21) dX12_demand_17 (by decide) ?_
    refine o_ret1 dX12_demand_21 trivial ?_
    exact r_qY c_9 rfl q_6
set_option maxRecDepth 100000 in
set_option maxHeartbeats 4000000 in
/-- leasesOf(i) -/
theorem ct_X12_leasesOf {l : Launch} (hl : l.stackTraces = false) (d : Nat) (g : Nat → Nat → Int) (M : Nat → Nat → Int) (hsr : o_sr (g 193) M) (hwk : o_wk M) (i : Int) (hi : o_R i) : o_Ct l yX12_leasesOf wX12_leasesOf (d + 4) o_no [.ref 192, .int (o_I i)] o_N (o_mem g) 0 0 (r_q (0 ≤ i ∧ i < M 0 0) (m_cnt M i) g) := by
  refine o_Ct.ofV hl mX12_leasesOf (by decide +kernel) rfl rfl rfl (Nat.le_of_ble_eq_true rfl) ?_
  obtain ⟨⟨hr0, hr1, hr2, hr3, hr4, hr5, hr6⟩, hrs, hrl, hrq⟩ := id hsr
  obtain ⟨hws, hwl, hwq, hwo, hwle, hwrq, hwrd⟩ := id hwk
  obtain ⟨hw1, hw2, hw3⟩ := id hws
  obtain ⟨hw4, hw5, hw6, hw7, hw8⟩ := id hwl
  obtain ⟨hw9, hw10, hw11⟩ := id hwq
  obtain ⟨i1, i2⟩ := id hi
  refine o_aload_n dX12_leasesOf_0 rfl ?_
  refine o_aload_n dX12_leasesOf_1 rfl ?_
  refine o_iload_n dX12_leasesOf_2 rfl ?_
  refine o_cV _ (ct_X12_isShip hl d g M hsr hwk i hi) dX12_leasesOf_3 ml_X12_89 yw_X12_isShip rfl (by decide) (by omega) (by decide) rfl rfl rfl (Nat.le_of_ble_eq_true rfl) ?_
  refine o_cVm _ (ct_X12_isThere hl d g (0 ≤ i ∧ i < M 0 0)) dX12_leasesOf_6 ml_X12_144 yw_X12_isThere rfl (by decide) (by omega) (by decide) rfl rfl rfl (Nat.le_of_ble_eq_true rfl) (fun g_6 q_6 => ?_)
  refine o_ifb_eq (tgt := 21) dX12_leasesOf_9 (by decide) (fun c_9 => ?_) (fun c_9 => ?_)
  · skip
    refine o_iconst dX12_leasesOf_21 ?_
    refine o_ret1 dX12_leasesOf_22 trivial ?_
    exact r_qN c_9 q_6
  · skip
    obtain ⟨j, rfl⟩ : ∃ j : Nat, (j : Int) = i := ⟨i.toNat, by omega⟩
    have hj : (j : Int) < M 0 0 := by omega
    have hs6 := sr_n hsr q_6
    have hjs := hs6.2.1 j hj
    refine o_aload_n dX12_leasesOf_12 rfl ?_
    refine o_iload_n dX12_leasesOf_13 rfl ?_
    refine o_iconst dX12_leasesOf_14 ?_
    refine o_cV _ (ct_lampsOf0 hl d g_6 M hs6 hwk j hj) dX12_leasesOf_15 ml_X12_120 yw_X12_lampsOf rfl (by decide) (by omega) (by decide) rfl rfl rfl (Nat.le_of_ble_eq_true rfl) ?_
    refine o_goto (tgt := 22) dX12_leasesOf_18 (by decide) ?_
    refine o_ret1 dX12_leasesOf_22 trivial ?_
    exact r_qY c_9 rfl q_6
set_option maxRecDepth 100000 in
set_option maxHeartbeats 4000000 in
/-- level(i) -/
theorem ct_X12_level {l : Launch} (hl : l.stackTraces = false) (d : Nat) (g : Nat → Nat → Int) (M : Nat → Nat → Int) (hsr : o_sr (g 193) M) (hwk : o_wk M) (i : Int) (hi : o_R i) : o_Ct l yX12_level wX12_level (d + 4) o_no [.ref 192, .int (o_I i)] o_N (o_mem g) 0 0 (r_q (0 ≤ i ∧ i < M 0 1) (M 4 i.toNat) g) := by
  refine o_Ct.ofV hl mX12_level (by decide +kernel) rfl rfl rfl (Nat.le_of_ble_eq_true rfl) ?_
  obtain ⟨⟨hr0, hr1, hr2, hr3, hr4, hr5, hr6⟩, hrs, hrl, hrq⟩ := id hsr
  obtain ⟨hws, hwl, hwq, hwo, hwle, hwrq, hwrd⟩ := id hwk
  obtain ⟨hw1, hw2, hw3⟩ := id hws
  obtain ⟨hw4, hw5, hw6, hw7, hw8⟩ := id hwl
  obtain ⟨hw9, hw10, hw11⟩ := id hwq
  obtain ⟨i1, i2⟩ := id hi
  refine o_aload_n dX12_level_0 rfl ?_
  refine o_aload_n dX12_level_1 rfl ?_
  refine o_iload_n dX12_level_2 rfl ?_
  refine o_cV _ (ct_X12_isLamp hl d g M hsr hwk i hi) dX12_level_3 ml_X12_93 yw_X12_isLamp rfl (by decide) (by omega) (by decide) rfl rfl rfl (Nat.le_of_ble_eq_true rfl) ?_
  refine o_cVm _ (ct_X12_isThere hl d g (0 ≤ i ∧ i < M 0 1)) dX12_level_6 ml_X12_144 yw_X12_isThere rfl (by decide) (by omega) (by decide) rfl rfl rfl (Nat.le_of_ble_eq_true rfl) (fun g_6 q_6 => ?_)
  refine o_ifb_eq (tgt := 21) dX12_level_9 (by decide) (fun c_9 => ?_) (fun c_9 => ?_)
  · skip
    refine o_iconst dX12_level_21 ?_
    refine o_ret1 dX12_level_22 trivial ?_
    exact r_qN c_9 q_6
  · skip
    obtain ⟨j, rfl⟩ : ∃ j : Nat, (j : Int) = i := ⟨i.toNat, by omega⟩
    have hj : (j : Int) < M 0 1 := by omega
    have hs6 := sr_n hsr q_6
    have hjs := hs6.2.2.1 j hj
    have hb8 := hw8 j hj
    refine o_aload_n dX12_level_12 rfl ?_
    refine o_iload_n dX12_level_13 rfl ?_
    refine o_iconst dX12_level_14 ?_
    refine o_cV _ (ct_X12_of hl d g_6 j 0 (by omega) (by decide)) dX12_level_15 ml_X12_58 yw_X12_of rfl (by decide) (by omega) (by decide) rfl rfl rfl (Nat.le_of_ble_eq_true rfl) ?_
    refine o_goto (tgt := 22) dX12_level_18 (by decide) ?_
    refine o_ret1 dX12_level_22 trivial ?_
    exact r_qY c_9 (by simp only [Int.toNat_natCast]; exact (hjs.1).symm) q_6
set_option maxRecDepth 100000 in
set_option maxHeartbeats 4000000 in
/-- brightHours(i) -/
theorem ct_X12_brightHours {l : Launch} (hl : l.stackTraces = false) (d : Nat) (g : Nat → Nat → Int) (M : Nat → Nat → Int) (hsr : o_sr (g 193) M) (hwk : o_wk M) (i : Int) (hi : o_R i) : o_Ct l yX12_brightHours wX12_brightHours (d + 4) o_no [.ref 192, .int (o_I i)] o_N (o_mem g) 0 0 (r_q (0 ≤ i ∧ i < M 0 1) (M 7 i.toNat) g) := by
  refine o_Ct.ofV hl mX12_brightHours (by decide +kernel) rfl rfl rfl (Nat.le_of_ble_eq_true rfl) ?_
  obtain ⟨⟨hr0, hr1, hr2, hr3, hr4, hr5, hr6⟩, hrs, hrl, hrq⟩ := id hsr
  obtain ⟨hws, hwl, hwq, hwo, hwle, hwrq, hwrd⟩ := id hwk
  obtain ⟨hw1, hw2, hw3⟩ := id hws
  obtain ⟨hw4, hw5, hw6, hw7, hw8⟩ := id hwl
  obtain ⟨hw9, hw10, hw11⟩ := id hwq
  obtain ⟨i1, i2⟩ := id hi
  refine o_aload_n dX12_brightHours_0 rfl ?_
  refine o_aload_n dX12_brightHours_1 rfl ?_
  refine o_iload_n dX12_brightHours_2 rfl ?_
  refine o_cV _ (ct_X12_isLamp hl d g M hsr hwk i hi) dX12_brightHours_3 ml_X12_93 yw_X12_isLamp rfl (by decide) (by omega) (by decide) rfl rfl rfl (Nat.le_of_ble_eq_true rfl) ?_
  refine o_cVm _ (ct_X12_isThere hl d g (0 ≤ i ∧ i < M 0 1)) dX12_brightHours_6 ml_X12_144 yw_X12_isThere rfl (by decide) (by omega) (by decide) rfl rfl rfl (Nat.le_of_ble_eq_true rfl) (fun g_6 q_6 => ?_)
  refine o_ifb_eq (tgt := 21) dX12_brightHours_9 (by decide) (fun c_9 => ?_) (fun c_9 => ?_)
  · skip
    refine o_iconst dX12_brightHours_21 ?_
    refine o_ret1 dX12_brightHours_22 trivial ?_
    exact r_qN c_9 q_6
  · skip
    obtain ⟨j, rfl⟩ : ∃ j : Nat, (j : Int) = i := ⟨i.toNat, by omega⟩
    have hj : (j : Int) < M 0 1 := by omega
    have hs6 := sr_n hsr q_6
    have hjs := hs6.2.2.1 j hj
    have hb8 := hw8 j hj
    refine o_aload_n dX12_brightHours_12 rfl ?_
    refine o_iload_n dX12_brightHours_13 rfl ?_
    refine o_iconst dX12_brightHours_14 ?_
    refine o_cV _ (ct_X12_of hl d g_6 j 3 (by omega) (by decide)) dX12_brightHours_15 ml_X12_58 yw_X12_of rfl (by decide) (by omega) (by decide) rfl rfl rfl (Nat.le_of_ble_eq_true rfl) ?_
    refine o_goto (tgt := 22) dX12_brightHours_18 (by decide) ?_
    refine o_ret1 dX12_brightHours_22 trivial ?_
    exact r_qY c_9 (by simp only [Int.toNat_natCast]; exact (hjs.2.2.2.1).symm) q_6
set_option maxRecDepth 100000 in
set_option maxHeartbeats 4000000 in
/-- isLeased(i) -/
theorem ct_X12_isLeased {l : Launch} (hl : l.stackTraces = false) (d : Nat) (g : Nat → Nat → Int) (M : Nat → Nat → Int) (hsr : o_sr (g 193) M) (hwk : o_wk M) (i : Int) (hi : o_R i) : o_Ct l yX12_isLeased wX12_isLeased (d + 4) o_no [.ref 192, .int (o_I i)] o_N (o_mem g) 0 0 (r_q (0 ≤ i ∧ i < M 0 1) (o_b (0 < M 5 i.toNat)) g) := by
  refine o_Ct.ofV hl mX12_isLeased (by decide +kernel) rfl rfl rfl (Nat.le_of_ble_eq_true rfl) ?_
  obtain ⟨⟨hr0, hr1, hr2, hr3, hr4, hr5, hr6⟩, hrs, hrl, hrq⟩ := id hsr
  obtain ⟨hws, hwl, hwq, hwo, hwle, hwrq, hwrd⟩ := id hwk
  obtain ⟨hw1, hw2, hw3⟩ := id hws
  obtain ⟨hw4, hw5, hw6, hw7, hw8⟩ := id hwl
  obtain ⟨hw9, hw10, hw11⟩ := id hwq
  obtain ⟨i1, i2⟩ := id hi
  refine o_aload_n dX12_isLeased_0 rfl ?_
  refine o_aload_n dX12_isLeased_1 rfl ?_
  refine o_iload_n dX12_isLeased_2 rfl ?_
  refine o_cV _ (ct_X12_isLamp hl d g M hsr hwk i hi) dX12_isLeased_3 ml_X12_93 yw_X12_isLamp rfl (by decide) (by omega) (by decide) rfl rfl rfl (Nat.le_of_ble_eq_true rfl) ?_
  refine o_cVm _ (ct_X12_isThere hl d g (0 ≤ i ∧ i < M 0 1)) dX12_isLeased_6 ml_X12_144 yw_X12_isThere rfl (by decide) (by omega) (by decide) rfl rfl rfl (Nat.le_of_ble_eq_true rfl) (fun g_6 q_6 => ?_)
  refine o_ifb_eq (tgt := 24) dX12_isLeased_9 (by decide) (fun c_9 => ?_) (fun c_9 => ?_)
  · skip
    refine o_iconst dX12_isLeased_24 ?_
    refine o_ret1 dX12_isLeased_25 (by first | exact o_rb0 | exact o_rb1 | exact o_bn _) ?_
    exact r_qN c_9 q_6
  · skip
    obtain ⟨j, rfl⟩ : ∃ j : Nat, (j : Int) = i := ⟨i.toNat, by omega⟩
    have hj : (j : Int) < M 0 1 := by omega
    have hs6 := sr_n hsr q_6
    have hjs := hs6.2.2.1 j hj
    have hb8 := hw8 j hj
    refine o_aload_n dX12_isLeased_12 rfl ?_
    refine o_iload_n dX12_isLeased_13 rfl ?_
    refine o_cV _ (ct_X12_isOut hl d g_6 M hs6 hwk j hj) dX12_isLeased_14 ml_X12_96 yw_X12_isOut rfl (by decide) (by omega) (by decide) rfl rfl rfl (Nat.le_of_ble_eq_true rfl) ?_
    refine o_ifb_eq (tgt := 24) dX12_isLeased_17 (by decide) (fun c_17 => ?_) (fun c_17 => ?_)
    · skip
      refine o_iconst dX12_isLeased_24 ?_
      refine o_ret1 dX12_isLeased_25 (by first | exact o_rb0 | exact o_rb1 | exact o_bn _) ?_
      exact r_qY c_9 (by simp only [Int.toNat_natCast]; exact o_b0 c_17) q_6
    · skip
      refine o_iconst dX12_isLeased_20 ?_
      refine o_goto (tgt := 25) dX12_isLeased_21 (by decide) ?_
      refine o_ret1 dX12_isLeased_25 (by first | exact o_rb0 | exact o_rb1 | exact o_bn _) ?_
      exact r_qY c_9 (by simp only [Int.toNat_natCast]; exact o_b1 c_17) q_6
set_option maxRecDepth 100000 in
set_option maxHeartbeats 4000000 in
/-- wasBright(i) -/
theorem ct_X12_wasBright {l : Launch} (hl : l.stackTraces = false) (d : Nat) (g : Nat → Nat → Int) (M : Nat → Nat → Int) (hsr : o_sr (g 193) M) (hwk : o_wk M) (i : Int) (hi : o_R i) : o_Ct l yX12_wasBright wX12_wasBright (d + 4) o_no [.ref 192, .int (o_I i)] o_N (o_mem g) 0 0 (r_q (0 ≤ i ∧ i < M 0 1) (o_b (M 8 i.toNat = 1)) g) := by
  refine o_Ct.ofV hl mX12_wasBright (by decide +kernel) rfl rfl rfl (Nat.le_of_ble_eq_true rfl) ?_
  obtain ⟨⟨hr0, hr1, hr2, hr3, hr4, hr5, hr6⟩, hrs, hrl, hrq⟩ := id hsr
  obtain ⟨hws, hwl, hwq, hwo, hwle, hwrq, hwrd⟩ := id hwk
  obtain ⟨hw1, hw2, hw3⟩ := id hws
  obtain ⟨hw4, hw5, hw6, hw7, hw8⟩ := id hwl
  obtain ⟨hw9, hw10, hw11⟩ := id hwq
  obtain ⟨i1, i2⟩ := id hi
  refine o_aload_n dX12_wasBright_0 rfl ?_
  refine o_aload_n dX12_wasBright_1 rfl ?_
  refine o_iload_n dX12_wasBright_2 rfl ?_
  refine o_cV _ (ct_X12_isLamp hl d g M hsr hwk i hi) dX12_wasBright_3 ml_X12_93 yw_X12_isLamp rfl (by decide) (by omega) (by decide) rfl rfl rfl (Nat.le_of_ble_eq_true rfl) ?_
  refine o_cVm _ (ct_X12_isThere hl d g (0 ≤ i ∧ i < M 0 1)) dX12_wasBright_6 ml_X12_144 yw_X12_isThere rfl (by decide) (by omega) (by decide) rfl rfl rfl (Nat.le_of_ble_eq_true rfl) (fun g_6 q_6 => ?_)
  refine o_ifb_eq (tgt := 26) dX12_wasBright_9 (by decide) (fun c_9 => ?_) (fun c_9 => ?_)
  · skip
    refine o_iconst dX12_wasBright_26 ?_
    refine o_ret1 dX12_wasBright_27 (by first | exact o_rb0 | exact o_rb1 | exact o_bn _) ?_
    exact r_qN c_9 q_6
  · skip
    obtain ⟨j, rfl⟩ : ∃ j : Nat, (j : Int) = i := ⟨i.toNat, by omega⟩
    have hj : (j : Int) < M 0 1 := by omega
    have hs6 := sr_n hsr q_6
    have hjs := hs6.2.2.1 j hj
    have hb8 := hw8 j hj
    refine o_aload_n dX12_wasBright_12 rfl ?_
    refine o_iload_n dX12_wasBright_13 rfl ?_
    refine o_iconst dX12_wasBright_14 ?_
    refine o_cV _ (ct_X12_of hl d g_6 j 4 (by omega) (by decide)) dX12_wasBright_15 ml_X12_58 yw_X12_of rfl (by decide) (by omega) (by decide) rfl rfl rfl (Nat.le_of_ble_eq_true rfl) ?_
    refine o_iconst dX12_wasBright_18 ?_
    refine o_icmp_ne (tgt := 26) dX12_wasBright_19 (by decide) ⟨by omega, by omega⟩ ⟨by omega, by omega⟩ (fun c_19 => ?_) (fun c_19 => ?_)
    · skip
      refine o_iconst dX12_wasBright_26 ?_
      refine o_ret1 dX12_wasBright_27 (by first | exact o_rb0 | exact o_rb1 | exact o_bn _) ?_
      exact r_qY c_9 (by simp only [Int.toNat_natCast]; exact o_b0 (fun q => c_19 (by have := hjs.2.2.2.2; omega))) q_6
    · skip
      refine o_iconst dX12_wasBright_22 ?_
      refine o_goto (tgt := 27) dX12_wasBright_23 (by decide) ?_
      refine o_ret1 dX12_wasBright_27 (by first | exact o_rb0 | exact o_rb1 | exact o_bn _) ?_
      exact r_qY c_9 (by simp only [Int.toNat_natCast]; exact o_b1 (by have := hjs.2.2.2.2; omega)) q_6
set_option maxRecDepth 100000 in
set_option maxHeartbeats 4000000 in
/-- requestedLamp(i) -/
theorem ct_X12_requestedLamp {l : Launch} (hl : l.stackTraces = false) (d : Nat) (g : Nat → Nat → Int) (M : Nat → Nat → Int) (hsr : o_sr (g 193) M) (hwk : o_wk M) (i : Int) (hi : o_R i) : o_Ct l yX12_requestedLamp wX12_requestedLamp (d + 4) o_no [.ref 192, .int (o_I i)] o_N (o_mem g) 0 0 (r_q (0 ≤ i ∧ i < M 0 6) (M 9 i.toNat) g) := by
  refine o_Ct.ofV hl mX12_requestedLamp (by decide +kernel) rfl rfl rfl (Nat.le_of_ble_eq_true rfl) ?_
  obtain ⟨⟨hr0, hr1, hr2, hr3, hr4, hr5, hr6⟩, hrs, hrl, hrq⟩ := id hsr
  obtain ⟨hws, hwl, hwq, hwo, hwle, hwrq, hwrd⟩ := id hwk
  obtain ⟨hw1, hw2, hw3⟩ := id hws
  obtain ⟨hw4, hw5, hw6, hw7, hw8⟩ := id hwl
  obtain ⟨hw9, hw10, hw11⟩ := id hwq
  obtain ⟨i1, i2⟩ := id hi
  refine o_aload_n dX12_requestedLamp_0 rfl ?_
  refine o_aload_n dX12_requestedLamp_1 rfl ?_
  refine o_iload_n dX12_requestedLamp_2 rfl ?_
  refine o_cV _ (ct_X12_isRequest hl d g M hsr hwk i hi) dX12_requestedLamp_3 ml_X12_169 yw_X12_isRequest rfl (by decide) (by omega) (by decide) rfl rfl rfl (Nat.le_of_ble_eq_true rfl) ?_
  refine o_cVm _ (ct_X12_isThere hl d g (0 ≤ i ∧ i < M 0 6)) dX12_requestedLamp_6 ml_X12_144 yw_X12_isThere rfl (by decide) (by omega) (by decide) rfl rfl rfl (Nat.le_of_ble_eq_true rfl) (fun g_6 q_6 => ?_)
  refine o_ifb_eq (tgt := 26) dX12_requestedLamp_9 (by decide) (fun c_9 => ?_) (fun c_9 => ?_)
  · skip
    refine o_iconst dX12_requestedLamp_26 ?_
    refine o_ret1 dX12_requestedLamp_27 trivial ?_
    exact r_qN c_9 q_6
  · skip
    obtain ⟨j, rfl⟩ : ∃ j : Nat, (j : Int) = i := ⟨i.toNat, by omega⟩
    have hj : (j : Int) < M 0 6 := by omega
    have hs6 := sr_n hsr q_6
    have hjs := hs6.2.2.2 j hj
    refine o_aload_n dX12_requestedLamp_12 rfl ?_
    refine o_gf dX12_requestedLamp_13 fl_X12_9 rfl (by decide) rfl ?_
    refine o_bipush dX12_requestedLamp_16 (by decide) ?_
    refine o_iconst dX12_requestedLamp_18 ?_
    refine o_iload_n dX12_requestedLamp_19 rfl ?_
    refine o_imul dX12_requestedLamp_20 ?_
    refine o_iadd dX12_requestedLamp_21 ?_
    refine o_ialdn (j := (65 + 2 * j)) dX12_requestedLamp_22 (by decide) rfl (by decide) (by first | rfl | omega) (by omega) ?_
    refine o_goto (tgt := 27) dX12_requestedLamp_23 (by decide) ?_
    refine o_ret1 dX12_requestedLamp_27 trivial ?_
    exact r_qY c_9 (by simp only [Int.toNat_natCast]; exact hjs.1.symm) q_6
set_option maxRecDepth 100000 in
set_option maxHeartbeats 4000000 in
/-- requestedHours(i) -/
theorem ct_X12_requestedHours {l : Launch} (hl : l.stackTraces = false) (d : Nat) (g : Nat → Nat → Int) (M : Nat → Nat → Int) (hsr : o_sr (g 193) M) (hwk : o_wk M) (i : Int) (hi : o_R i) : o_Ct l yX12_requestedHours wX12_requestedHours (d + 4) o_no [.ref 192, .int (o_I i)] o_N (o_mem g) 0 0 (r_q (0 ≤ i ∧ i < M 0 6) (M 10 i.toNat) g) := by
  refine o_Ct.ofV hl mX12_requestedHours (by decide +kernel) rfl rfl rfl (Nat.le_of_ble_eq_true rfl) ?_
  obtain ⟨⟨hr0, hr1, hr2, hr3, hr4, hr5, hr6⟩, hrs, hrl, hrq⟩ := id hsr
  obtain ⟨hws, hwl, hwq, hwo, hwle, hwrq, hwrd⟩ := id hwk
  obtain ⟨hw1, hw2, hw3⟩ := id hws
  obtain ⟨hw4, hw5, hw6, hw7, hw8⟩ := id hwl
  obtain ⟨hw9, hw10, hw11⟩ := id hwq
  obtain ⟨i1, i2⟩ := id hi
  refine o_aload_n dX12_requestedHours_0 rfl ?_
  refine o_aload_n dX12_requestedHours_1 rfl ?_
  refine o_iload_n dX12_requestedHours_2 rfl ?_
  refine o_cV _ (ct_X12_isRequest hl d g M hsr hwk i hi) dX12_requestedHours_3 ml_X12_169 yw_X12_isRequest rfl (by decide) (by omega) (by decide) rfl rfl rfl (Nat.le_of_ble_eq_true rfl) ?_
  refine o_cVm _ (ct_X12_isThere hl d g (0 ≤ i ∧ i < M 0 6)) dX12_requestedHours_6 ml_X12_144 yw_X12_isThere rfl (by decide) (by omega) (by decide) rfl rfl rfl (Nat.le_of_ble_eq_true rfl) (fun g_6 q_6 => ?_)
  refine o_ifb_eq (tgt := 28) dX12_requestedHours_9 (by decide) (fun c_9 => ?_) (fun c_9 => ?_)
  · skip
    refine o_iconst dX12_requestedHours_28 ?_
    refine o_ret1 dX12_requestedHours_29 trivial ?_
    exact r_qN c_9 q_6
  · skip
    obtain ⟨j, rfl⟩ : ∃ j : Nat, (j : Int) = i := ⟨i.toNat, by omega⟩
    have hj : (j : Int) < M 0 6 := by omega
    have hs6 := sr_n hsr q_6
    have hjs := hs6.2.2.2 j hj
    refine o_aload_n dX12_requestedHours_12 rfl ?_
    refine o_gf dX12_requestedHours_13 fl_X12_9 rfl (by decide) rfl ?_
    refine o_bipush dX12_requestedHours_16 (by decide) ?_
    refine o_iconst dX12_requestedHours_18 ?_
    refine o_iload_n dX12_requestedHours_19 rfl ?_
    refine o_imul dX12_requestedHours_20 ?_
    refine o_iadd dX12_requestedHours_21 ?_
    refine o_iconst dX12_requestedHours_22 ?_
    refine o_iadd dX12_requestedHours_23 ?_
    refine o_ialdn (j := (65 + 2 * j + 1)) dX12_requestedHours_24 (by decide) rfl (by decide) (by first | rfl | omega) (by omega) ?_
    refine o_goto (tgt := 29) dX12_requestedHours_25 (by decide) ?_
    refine o_ret1 dX12_requestedHours_29 trivial ?_
    exact r_qY c_9 (by simp only [Int.toNat_natCast]; exact hjs.2.symm) q_6
