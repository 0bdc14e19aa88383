/-! means and shares -/
def f_mean (M : Nat → Nat → Int) : UInt64 := FP.ddiv (FP.i2d (o_I (o_sm (fun i => M 1 i) (M 0 0).toNat))) (FP.i2d (o_I (M 0 0)))
def f_lsd (M : Nat → Nat → Int) : Int := o_sm (fun i => o_b (0 < M 5 i)) (M 0 1).toNat
def f_shr (M : Nat → Nat → Int) : UInt32 := FP.fdiv (FP.i2f (o_I (f_lsd M))) (FP.i2f (o_I (M 0 1)))
theorem fp_all : ∀ a : Fin 601, ∀ b : Fin 6, (FP.ddiv (FP.i2d (o_I ((a : Nat) : Int))) (FP.i2d (o_I (((b : Nat) + 1 : Nat) : Int))) &&& 0x7fffffffffffffff ≤ 0x7ff0000000000000) ∧ FP.dcmp (FP.ddiv (FP.i2d (o_I ((a : Nat) : Int))) (FP.i2d (o_I (((b : Nat) + 1 : Nat) : Int)))) (FP.ddiv (FP.i2d (o_I ((a : Nat) : Int))) (FP.i2d (o_I (((b : Nat) + 1 : Nat) : Int)))) = some .eq := by decide +kernel
theorem fp_all2 : ∀ a : Fin 9, ∀ b : Fin 8, (FP.fdiv (FP.i2f (o_I ((a : Nat) : Int))) (FP.i2f (o_I (((b : Nat) + 1 : Nat) : Int))) &&& 0x7fffffff ≤ 0x7f800000) ∧ (FP.f2d (FP.fdiv (FP.i2f (o_I ((a : Nat) : Int))) (FP.i2f (o_I (((b : Nat) + 1 : Nat) : Int)))) &&& 0x7fffffffffffffff ≤ 0x7ff0000000000000) ∧ FP.dcmp (FP.f2d (FP.fdiv (FP.i2f (o_I ((a : Nat) : Int))) (FP.i2f (o_I (((b : Nat) + 1 : Nat) : Int))))) (FP.f2d (FP.fdiv (FP.i2f (o_I ((a : Nat) : Int))) (FP.i2f (o_I (((b : Nat) + 1 : Nat) : Int))))) = some .eq := by decide +kernel
theorem f_mean_ok {M : Nat → Nat → Int} (h : o_wk M) (h0 : 0 < M 0 0) : vf_n64 (f_mean M) ∧ FP.dcmp (f_mean M) (f_mean M) = some .eq ∧ 0 ≤ o_sm (fun i => M 1 i) (M 0 0).toNat ∧ o_sm (fun i => M 1 i) (M 0 0).toNat ≤ 600 := by
  have hs := h.1
  have hle := o_sm_le (f := fun i => M 1 i) (n := (M 0 0).toNat) (m := 100) (fun i hi => (hs.2.2 i (by omega)).1)
  have h6 := hs.2.1
  have hb : 0 ≤ o_sm (fun i => M 1 i) (M 0 0).toNat ∧ o_sm (fun i => M 1 i) (M 0 0).toNat ≤ 600 := by
    rcases (by omega : (M 0 0).toNat = 1 ∨ (M 0 0).toNat = 2 ∨ (M 0 0).toNat = 3 ∨ (M 0 0).toNat = 4 ∨ (M 0 0).toNat = 5 ∨ (M 0 0).toNat = 6) with q | q | q | q | q | q <;> rw [q] at hle ⊢ <;> omega
  obtain ⟨a, ha⟩ : ∃ a : Nat, (a : Int) = o_sm (fun i => M 1 i) (M 0 0).toNat := ⟨(o_sm (fun i => M 1 i) (M 0 0).toNat).toNat, by omega⟩
  obtain ⟨b, hb9⟩ : ∃ b : Nat, ((b + 1 : Nat) : Int) = M 0 0 := ⟨(M 0 0).toNat - 1, by omega⟩
  have q := fp_all ⟨a, by omega⟩ ⟨b, by omega⟩
  have e : f_mean M = FP.ddiv (FP.i2d (o_I (a : Int))) (FP.i2d (o_I ((b + 1 : Nat) : Int))) := by unfold f_mean; rw [ha, hb9]
  rw [e]
  exact ⟨q.1, q.2, hb⟩
theorem f_shr_ok {M : Nat → Nat → Int} (h : o_wk M) (h0 : 0 < M 0 1) : vf_n32 (f_shr M) ∧ vf_n64 (FP.f2d (f_shr M)) ∧ FP.dcmp (FP.f2d (f_shr M)) (FP.f2d (f_shr M)) = some .eq := by
  have hl := h.2.1
  have hle := o_sm_le (f := fun i => o_b (0 < M 5 i)) (n := (M 0 1).toNat) (m := 1) (fun i hi => by rcases o_b01 (0 < M 5 i) with q | q <;> (show 0 ≤ o_b _ ∧ o_b _ ≤ 1) <;> rw [q] <;> omega)
  have h8 := hl.2.1
  obtain ⟨a, ha⟩ : ∃ a : Nat, (a : Int) = f_lsd M := ⟨(f_lsd M).toNat, by unfold f_lsd; omega⟩
  have ha8 : a < 9 := by unfold f_lsd at ha; omega
  obtain ⟨b, hb9⟩ : ∃ b : Nat, ((b + 1 : Nat) : Int) = M 0 1 := ⟨(M 0 1).toNat - 1, by omega⟩
  have q := fp_all2 ⟨a, ha8⟩ ⟨b, by omega⟩
  have e : f_shr M = FP.fdiv (FP.i2f (o_I (a : Int))) (FP.i2f (o_I ((b + 1 : Nat) : Int))) := by unfold f_shr; rw [ha, hb9]
  rw [e]
  exact ⟨q.1, q.2.1, q.2.2⟩
set_option maxRecDepth 100000 in
set_option maxHeartbeats 4000000 in
/-- meanCoins() -/
theorem ct_X12_meanCoins {l : Launch} (hl : l.stackTraces = false) (d : Nat) (g : Nat → Nat → Int) (M : Nat → Nat → Int) (hsr : o_sr (g 193) M) (hwk : o_wk M) : o_Ct l yX12_meanCoins wX12_meanCoins (d + 3) o_no [.ref 192] o_N (o_mem g) 0 0 (o_mt (some (.double (if 0 < M 0 0 then f_mean M else 0))) (fun g' => g' = o_e g 192 7 (1 - o_b (0 < M 0 0)))) := by
  refine o_Ct.ofV hl mX12_meanCoins (by decide +kernel) rfl rfl rfl (Nat.le_of_ble_eq_true rfl) ?_
  obtain ⟨⟨hr0, hr1, hr2, hr3, hr4, hr5, hr6⟩, hrs, hrl, hrq⟩ := id hsr
  obtain ⟨hws, hwl, hwq, hwo, hwle, hwrq, hwrd⟩ := id hwk
  obtain ⟨hw1, hw2, hw3⟩ := id hws
  obtain ⟨hw4, hw5, hw6, hw7, hw8⟩ := id hwl
  obtain ⟨hw9, hw10, hw11⟩ := id hwq
  obtain ⟨N, hN⟩ : ∃ N : Nat, (N : Int) = M 0 0 := ⟨(M 0 0).toNat, by omega⟩
  have end31 : ∀ i : Nat, i = (M 0 0).toNat → o_V l mX12_meanCoins (d + 3) o_no (o_mt (some (.double (if 0 < M 0 0 then f_mean M else 0))) (fun g' => g' = o_e g 192 7 (1 - o_b (0 < M 0 0)))) 31 [(0, .ref 192), (1, .int (o_I (M 0 0))), (2, .int (o_I (o_sm (fun i => M 1 i) i))), (3, .int (o_I ((i : Nat) : Int)))] [] o_N (o_mem g) 0 0 := by
    intro i hi
    subst hi
    refine o_aload_n dX12_meanCoins_31 rfl ?_
    refine o_iload_n dX12_meanCoins_32 rfl ?_
    by_cases h0 : 0 < M 0 0
    · have hf := f_mean_ok hwk h0
      refine o_if_le (tgt := 40) dX12_meanCoins_33 (by decide) ⟨by omega, by omega⟩ (fun c => absurd h0 (by omega)) (fun _ => ?_)
      refine o_iconst dX12_meanCoins_36 ?_
      refine o_goto (tgt := 41) dX12_meanCoins_37 (by decide) ?_
      rw [show (o_I 1 : Int32) = o_I (o_b (0 < M 0 0)) by rw [o_b1 h0]]
      refine o_cVm _ (ct_X12_isThere hl (d + 1) g (0 < M 0 0)) dX12_meanCoins_41 ml_X12_144 yw_X12_isThere rfl (by decide) (by omega) (by decide) rfl rfl rfl (Nat.le_of_ble_eq_true rfl) (fun g_41 q_41 => ?_)
      refine o_ifb_eq (tgt := 55) dX12_meanCoins_44 (by decide) (fun c => absurd h0 c) (fun _ => ?_)
      refine o_iload_n dX12_meanCoins_47 rfl ?_
      refine o_i2d dX12_meanCoins_48 ?_
      refine o_iload_n dX12_meanCoins_49 rfl ?_
      refine o_i2d dX12_meanCoins_50 ?_
      refine o_ddiv dX12_meanCoins_51 hf.1 ?_
      refine o_goto (tgt := 56) dX12_meanCoins_52 (by decide) ?_
      refine o_ret1 dX12_meanCoins_56 trivial ?_
      rw [if_pos h0]
      exact ⟨rfl, rfl, _, rfl, q_41⟩
    · refine o_if_le (tgt := 40) dX12_meanCoins_33 (by decide) ⟨by omega, by omega⟩ (fun _ => ?_) (fun c => absurd (by omega) c)
      refine o_iconst dX12_meanCoins_40 ?_
      rw [show (o_I 0 : Int32) = o_I (o_b (0 < M 0 0)) by rw [o_b0 h0]]
      refine o_cVm _ (ct_X12_isThere hl (d + 1) g (0 < M 0 0)) dX12_meanCoins_41 ml_X12_144 yw_X12_isThere rfl (by decide) (by omega) (by decide) rfl rfl rfl (Nat.le_of_ble_eq_true rfl) (fun g_41 q_41 => ?_)
      refine o_ifb_eq (tgt := 55) dX12_meanCoins_44 (by decide) (fun _ => ?_) (fun c => absurd c h0)
      refine o_dconst0 dX12_meanCoins_55 ?_
      refine o_ret1 dX12_meanCoins_56 trivial ?_
      rw [if_neg h0]
      exact ⟨rfl, rfl, _, rfl, q_41⟩
  have key := o_lp (fun i => o_V l mX12_meanCoins (d + 3) o_no (o_mt (some (.double (if 0 < M 0 0 then f_mean M else 0))) (fun g' => g' = o_e g 192 7 (1 - o_b (0 < M 0 0)))) 11 [(0, .ref 192), (1, .int (o_I (M 0 0))), (2, .int (o_I (o_sm (fun i => M 1 i) i))), (3, .int (o_I ((i : Nat) : Int)))] [] o_N (o_mem g) 0 0) N (fun i hi ih => by
    refine o_iload_n dX12_meanCoins_11 rfl ?_
    refine o_iload_n dX12_meanCoins_12 rfl ?_
    refine o_icmp_ge (tgt := 31) dX12_meanCoins_13 (by decide) ⟨by omega, by omega⟩ ⟨by omega, by omega⟩ (fun c_13 => ?_) (fun c_13 => ?_)
    · skip
      have hiN : i = (M 0 0).toNat := by omega
      exact o_loc _ rfl (end31 i hiN)
    · skip
      have hsi := (hrs i (by omega)).1
      refine o_iload_n dX12_meanCoins_16 rfl ?_
      refine o_aload_n dX12_meanCoins_17 rfl ?_
      refine o_iload_n dX12_meanCoins_18 rfl ?_
      refine o_iconst dX12_meanCoins_19 ?_
      refine o_cV _ (ct_X12_ofShip hl (d + 1) g i 0 (by omega) (by decide)) dX12_meanCoins_20 ml_X12_99 yw_X12_ofShip rfl (by decide) (by omega) (by decide) rfl rfl rfl (Nat.le_of_ble_eq_true rfl) ?_
      rw [show g 193 (7 + 3 * i + 0) = M 1 i from hsi]
      refine o_iadd dX12_meanCoins_23 ?_
      refine o_istore_n dX12_meanCoins_24 (by decide) ?_
      refine o_iinc dX12_meanCoins_25 rfl (by decide) ?_
      refine o_goto (tgt := 11) dX12_meanCoins_28 (by decide) ?_
      exact o_loc [(0, .ref 192), (1, .int (o_I (M 0 0))), (2, .int (o_I (o_sm (fun i => M 1 i) (i + 1)))), (3, .int (o_I (((i + 1) : Nat) : Int)))] rfl (ih (by omega)))
  refine o_aload_n dX12_meanCoins_0 rfl ?_
  refine o_gf dX12_meanCoins_1 fl_X12_9 rfl (by decide) rfl ?_
  refine o_iconst dX12_meanCoins_4 ?_
  refine o_ialdn (j := 0) dX12_meanCoins_5 (by decide) rfl (by decide) (by first | rfl | omega) (by omega) ?_
  rw [hr0]
  refine o_istore_n dX12_meanCoins_6 (by decide) ?_
  refine o_iconst dX12_meanCoins_7 ?_
  refine o_istore_n dX12_meanCoins_8 (by decide) ?_
  refine o_iconst dX12_meanCoins_9 ?_
  refine o_istore_n dX12_meanCoins_10 (by decide) ?_
  exact o_loc [(0, .ref 192), (1, .int (o_I (M 0 0))), (2, .int (o_I (o_sm (fun i => M 1 i) 0))), (3, .int (o_I ((0 : Nat) : Int)))] rfl (key 0 (Nat.zero_le _))
set_option maxRecDepth 100000 in
set_option maxHeartbeats 4000000 in
/-- leasedShare() -/
theorem ct_X12_leasedShare {l : Launch} (hl : l.stackTraces = false) (d : Nat) (g : Nat → Nat → Int) (M : Nat → Nat → Int) (hsr : o_sr (g 193) M) (hwk : o_wk M) : o_Ct l yX12_leasedShare wX12_leasedShare (d + 4) o_no [.ref 192] o_N (o_mem g) 0 0 (o_mt (some (.float (if 0 < M 0 1 then f_shr M else 0))) (fun g' => g' = o_e g 192 7 (1 - o_b (0 < M 0 1)))) := by
  refine o_Ct.ofV hl mX12_leasedShare (by decide +kernel) rfl rfl rfl (Nat.le_of_ble_eq_true rfl) ?_
  obtain ⟨⟨hr0, hr1, hr2, hr3, hr4, hr5, hr6⟩, hrs, hrl, hrq⟩ := id hsr
  obtain ⟨hws, hwl, hwq, hwo, hwle, hwrq, hwrd⟩ := id hwk
  obtain ⟨hw1, hw2, hw3⟩ := id hws
  obtain ⟨hw4, hw5, hw6, hw7, hw8⟩ := id hwl
  obtain ⟨hw9, hw10, hw11⟩ := id hwq
  refine o_aload_n dX12_leasedShare_0 rfl ?_
  refine o_gf dX12_leasedShare_1 fl_X12_9 rfl (by decide) rfl ?_
  refine o_iconst dX12_leasedShare_4 ?_
  refine o_ialdn (j := 1) dX12_leasedShare_5 (by decide) rfl (by decide) (by first | rfl | omega) (by omega) ?_
  rw [hr1]
  refine o_istore_n dX12_leasedShare_6 (by decide) ?_
  refine o_aload_n dX12_leasedShare_7 rfl ?_
  refine o_iload_n dX12_leasedShare_8 rfl ?_
  by_cases h0 : 0 < M 0 1
  · have hf := f_shr_ok hwk h0
    refine o_if_le (tgt := 16) dX12_leasedShare_9 (by decide) ⟨by omega, by omega⟩ (fun c => absurd h0 (by omega)) (fun _ => ?_)
    refine o_iconst dX12_leasedShare_12 ?_
    refine o_goto (tgt := 17) dX12_leasedShare_13 (by decide) ?_
    rw [show (o_I 1 : Int32) = o_I (o_b (0 < M 0 1)) by rw [o_b1 h0]]
    refine o_cVm _ (ct_X12_isThere hl (d + 1) g (0 < M 0 1)) dX12_leasedShare_17 ml_X12_144 yw_X12_isThere rfl (by decide) (by omega) (by decide) rfl rfl rfl (Nat.le_of_ble_eq_true rfl) (fun g_17 q_17 => ?_)
    refine o_ifb_eq (tgt := 34) dX12_leasedShare_20 (by decide) (fun c => absurd h0 c) (fun _ => ?_)
    refine o_aload_n dX12_leasedShare_23 rfl ?_
    refine o_cV _ (ct_X12_leased hl d g_17 M (sr_n hsr q_17) hwk) dX12_leasedShare_24 ml_X12_151 yw_X12_leased rfl (by decide) (by omega) (by decide) rfl rfl rfl (Nat.le_of_ble_eq_true rfl) ?_
    refine o_i2f dX12_leasedShare_27 ?_
    refine o_iload_n dX12_leasedShare_28 rfl ?_
    refine o_i2f dX12_leasedShare_29 ?_
    refine o_fdiv dX12_leasedShare_30 hf.1 ?_
    refine o_goto (tgt := 35) dX12_leasedShare_31 (by decide) ?_
    refine o_ret1 dX12_leasedShare_35 trivial ?_
    rw [if_pos h0]
    exact ⟨rfl, rfl, _, rfl, q_17⟩
  · refine o_if_le (tgt := 16) dX12_leasedShare_9 (by decide) ⟨by omega, by omega⟩ (fun _ => ?_) (fun c => absurd (by omega) c)
    refine o_iconst dX12_leasedShare_16 ?_
    rw [show (o_I 0 : Int32) = o_I (o_b (0 < M 0 1)) by rw [o_b0 h0]]
    refine o_cVm _ (ct_X12_isThere hl (d + 1) g (0 < M 0 1)) dX12_leasedShare_17 ml_X12_144 yw_X12_isThere rfl (by decide) (by omega) (by decide) rfl rfl rfl (Nat.le_of_ble_eq_true rfl) (fun g_17 q_17 => ?_)
    refine o_ifb_eq (tgt := 34) dX12_leasedShare_20 (by decide) (fun _ => ?_) (fun c => absurd c h0)
    refine o_fconst0 dX12_leasedShare_34 ?_
    refine o_ret1 dX12_leasedShare_35 trivial ?_
    rw [if_neg h0]
    exact ⟨rfl, rfl, _, rfl, q_17⟩
