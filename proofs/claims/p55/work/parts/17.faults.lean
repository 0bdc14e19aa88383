/-! the State at cell 1, and what its numbers keep to -/
def o_st (g : Nat → Nat → Int) (M : Nat → Nat → Int) : Prop := o_rs g 2 M ∧ o_rl g 6 M ∧ o_rq g 12 M ∧ g 1 3 = M 0 2 ∧ g 1 4 = M 0 3 ∧ g 1 5 = M 0 5 ∧ g 1 6 = M 0 4
/-- what the numbers keep to, also within an hour -/
def o_wk (M : Nat → Nat → Int) : Prop := o_ws M ∧ o_wl M ∧ o_wq M ∧ (0 ≤ M 0 2 ∧ M 0 2 ≤ 500) ∧ (∀ i : Nat, (i : Int) < M 0 1 → 0 < M 5 i → M 6 i - M 0 3 + M 1 (M 5 i - 1).toNat ≤ 100) ∧ (∀ k : Nat, (k : Int) < M 0 6 → 0 < M 5 (M 9 k).toNat) ∧ (∀ k k' : Nat, (k : Int) < M 0 6 → (k' : Int) < M 0 6 → M 9 k = M 9 k' → k = k')
/-- and between calls -/
def o_wf (M : Nat → Nat → Int) : Prop := o_wk M ∧ M 0 3 ≤ 1000000 ∧ o_sm (fun i => M 1 i) (M 0 0).toNat + M 0 5 = 100 * M 0 0 ∧ (∀ i : Nat, (i : Int) < M 0 1 → 0 < M 5 i → M 0 3 < M 6 i)
theorem o_isI {z v : Int} {n : Nat} {h : Nat → o_C} (e : v = z) : o_is (some (.int (o_I v))) n h (.inl (some (.int (o_I z)))) n h := ⟨by rw [e], rfl, rfl⟩
theorem o_rcN (z : Int) (h0 : 0 ≤ z) (h1 : z < 65536) : narrow .char (.int (o_I z)) = .int (o_I z) := by
  obtain ⟨n, rfl⟩ : ∃ n : Nat, (n : Int) = z := ⟨z.toNat, by omega⟩
  rw [← o_nI]
  exact (pk_charN (by omega)).1
theorem o_pr {a h : Int} (h1 : 1 ≤ a) (h2 : a ≤ 3) (h3 : 1 ≤ h) (h4 : h ≤ 24) : h ≤ a * h ∧ a * h ≤ 72 := by
  rcases (show a = 1 ∨ a = 2 ∨ a = 3 by omega) with rfl | rfl | rfl <;> omega
/-- the fault of a command, by its letter; 32: none -/
def f_ship (M : Nat → Nat → Int) : Int := if 6 ≤ M 0 0 then 115 else 32
def f_lamp (M : Nat → Nat → Int) (v : Int) : Int := if v < 1 ∨ 3 < v then 97 else if 8 ≤ M 0 1 then 115 else 32
def f_oil (M : Nat → Nat → Int) (u : Int) : Int := if u < 1 ∨ 200 < u then 97 else if 500 < M 0 2 + u then 115 else 32
def f_lease (M : Nat → Nat → Int) (s x t : Int) : Int := if ¬ (0 ≤ s ∧ s < M 0 0) ∨ ¬ (0 ≤ x ∧ x < M 0 1) then 105 else if t < 1 ∨ 24 < t then 97 else if 0 < M 5 x.toNat then 115 else if M 4 x.toNat * t ≤ M 1 s.toNat then 32 else 117
def f_req (M : Nat → Nat → Int) (x t : Int) (r : Int) : Int := if ¬ (0 ≤ x ∧ x < M 0 1) then 105 else if t < 1 ∨ 24 < t then 97 else if ¬ 0 < M 5 x.toNat then 110 else if r = -1 then 32 else 115
def f_unl (M : Nat → Nat → Int) (x : Int) : Int := if ¬ (0 ≤ x ∧ x < M 0 1) then 105 else if 0 < M 5 x.toNat then 32 else 110
def f_wait (t : Int) : Int := if t < 1 ∨ 48 < t then 97 else 32
theorem o_fst_R {p : Nat → Prop} {N : Nat} {r : Int} (h : o_fst p N r) (hN : N ≤ 8) : -1 ≤ r ∧ r < 8 := by
  rcases h with ⟨rfl, -⟩ | ⟨k, rfl, h, -⟩ <;> omega
set_option maxRecDepth 100000 in
set_option maxHeartbeats 4000000 in
/-- faultOfNewShip() -/
theorem ct_X10_faultOfNewShip {l : Launch} (hl : l.stackTraces = false) (d : Nat) (g : Nat → Nat → Int) (M : Nat → Nat → Int) (hst : o_st g M) (hwf : o_wf M) : o_Ct l yX10_faultOfNewShip wX10_faultOfNewShip (d + 1) o_no [.ref 1] o_N (o_mem g) 0 0 (o_is (some (.int (o_I (f_ship M)))) o_N (o_mem g)) := by
  refine o_Ct.ofV hl mX10_faultOfNewShip (by decide +kernel) rfl rfl rfl (Nat.le_of_ble_eq_true rfl) ?_
  obtain ⟨hrs, hrl, hrq, hg3, hg4, hg5, hg6⟩ := id hst
  obtain ⟨⟨hws, hwl, hwq, hwo, hwle, hwrq, hwrd⟩, hwh, hwc, hwe⟩ := id hwf
  have hs0 := hrs.1
  have hl0 := hrl.1
  have hq0 := hrq.1
  have hs1 := o_rs2 hrs
  have hl1 := o_rl6 hrl
  have hq1 := o_rq12 hrq
  obtain ⟨hw1, hw2, hw3⟩ := id hws
  obtain ⟨hw4, hw5, hw6, hw7, hw8⟩ := id hwl
  obtain ⟨hw9, hw10, hw11⟩ := id hwq
  refine o_aload_n dX10_faultOfNewShip_0 rfl ?_
  refine o_gf dX10_faultOfNewShip_1 fl_X10_12 rfl (by decide) rfl ?_
  refine o_gf dX10_faultOfNewShip_4 fl_X10_32 rfl (by decide) rfl ?_
  refine o_bipush dX10_faultOfNewShip_7 (by decide) ?_
  refine o_icmp_lt (tgt := 17) dX10_faultOfNewShip_9 (by decide) ⟨by omega, by omega⟩ ⟨by omega, by omega⟩ (fun c_9 => ?_) (fun c_9 => ?_)
  · skip
    refine o_bipush dX10_faultOfNewShip_17 (by decide) ?_
    refine o_ret1 dX10_faultOfNewShip_19 (by first | exact o_rcN _ (by omega) (by omega)) ?_
    exact o_isI (by unfold f_ship; (try simp only [Int.toNat_natCast] at *); (repeat' split) <;> omega)
  · skip
    refine o_bipush dX10_faultOfNewShip_12 (by decide) ?_
    refine o_goto (tgt := 19) dX10_faultOfNewShip_14 (by decide) ?_
    refine o_ret1 dX10_faultOfNewShip_19 (by first | exact o_rcN _ (by omega) (by omega)) ?_
    exact o_isI (by unfold f_ship; (try simp only [Int.toNat_natCast] at *); (repeat' split) <;> omega)
set_option maxRecDepth 100000 in
set_option maxHeartbeats 4000000 in
/-- faultOfNewLamp(v) -/
theorem ct_X10_faultOfNewLamp {l : Launch} (hl : l.stackTraces = false) (d : Nat) (g : Nat → Nat → Int) (M : Nat → Nat → Int) (hst : o_st g M) (hwf : o_wf M) (v : Int) (hv : o_R v) : o_Ct l yX10_faultOfNewLamp wX10_faultOfNewLamp (d + 1) o_no [.ref 1, .int (o_I v)] o_N (o_mem g) 0 0 (o_is (some (.int (o_I (f_lamp M v)))) o_N (o_mem g)) := by
  refine o_Ct.ofV hl mX10_faultOfNewLamp (by decide +kernel) rfl rfl rfl (Nat.le_of_ble_eq_true rfl) ?_
  obtain ⟨hrs, hrl, hrq, hg3, hg4, hg5, hg6⟩ := id hst
  obtain ⟨⟨hws, hwl, hwq, hwo, hwle, hwrq, hwrd⟩, hwh, hwc, hwe⟩ := id hwf
  have hs0 := hrs.1
  have hl0 := hrl.1
  have hq0 := hrq.1
  have hs1 := o_rs2 hrs
  have hl1 := o_rl6 hrl
  have hq1 := o_rq12 hrq
  obtain ⟨hw1, hw2, hw3⟩ := id hws
  obtain ⟨hw4, hw5, hw6, hw7, hw8⟩ := id hwl
  obtain ⟨hw9, hw10, hw11⟩ := id hwq
  obtain ⟨v1, v2⟩ := id hv
  refine o_iload_n dX10_faultOfNewLamp_0 rfl ?_
  refine o_iconst dX10_faultOfNewLamp_1 ?_
  refine o_icmp_lt (tgt := 10) dX10_faultOfNewLamp_2 (by decide) ⟨by omega, by omega⟩ ⟨by omega, by omega⟩ (fun c_2 => ?_) (fun c_2 => ?_)
  · skip
    refine o_bipush dX10_faultOfNewLamp_10 (by decide) ?_
    refine o_ret1 dX10_faultOfNewLamp_12 (by first | exact o_rcN _ (by omega) (by omega)) ?_
    exact o_isI (by unfold f_lamp; (try simp only [Int.toNat_natCast] at *); (repeat' split) <;> omega)
  · skip
    refine o_iload_n dX10_faultOfNewLamp_5 rfl ?_
    refine o_iconst dX10_faultOfNewLamp_6 ?_
    refine o_icmp_le (tgt := 13) dX10_faultOfNewLamp_7 (by decide) ⟨by omega, by omega⟩ ⟨by omega, by omega⟩ (fun c_7 => ?_) (fun c_7 => ?_)
    · skip
      refine o_aload_n dX10_faultOfNewLamp_13 rfl ?_
      refine o_gf dX10_faultOfNewLamp_14 fl_X10_21 rfl (by decide) rfl ?_
      refine o_gf dX10_faultOfNewLamp_17 fl_X10_36 rfl (by decide) rfl ?_
      refine o_bipush dX10_faultOfNewLamp_20 (by decide) ?_
      refine o_icmp_lt (tgt := 30) dX10_faultOfNewLamp_22 (by decide) ⟨by omega, by omega⟩ ⟨by omega, by omega⟩ (fun c_22 => ?_) (fun c_22 => ?_)
      · skip
        refine o_bipush dX10_faultOfNewLamp_30 (by decide) ?_
        refine o_ret1 dX10_faultOfNewLamp_32 (by first | exact o_rcN _ (by omega) (by omega)) ?_
        exact o_isI (by unfold f_lamp; (try simp only [Int.toNat_natCast] at *); (repeat' split) <;> omega)
      · skip
        refine o_bipush dX10_faultOfNewLamp_25 (by decide) ?_
        refine o_goto (tgt := 32) dX10_faultOfNewLamp_27 (by decide) ?_
        refine o_ret1 dX10_faultOfNewLamp_32 (by first | exact o_rcN _ (by omega) (by omega)) ?_
        exact o_isI (by unfold f_lamp; (try simp only [Int.toNat_natCast] at *); (repeat' split) <;> omega)
    · skip
      refine o_bipush dX10_faultOfNewLamp_10 (by decide) ?_
      refine o_ret1 dX10_faultOfNewLamp_12 (by first | exact o_rcN _ (by omega) (by omega)) ?_
      exact o_isI (by unfold f_lamp; (try simp only [Int.toNat_natCast] at *); (repeat' split) <;> omega)
set_option maxRecDepth 100000 in
set_option maxHeartbeats 4000000 in
/-- faultOfNewOil(u) -/
theorem ct_X10_faultOfNewOil {l : Launch} (hl : l.stackTraces = false) (d : Nat) (g : Nat → Nat → Int) (M : Nat → Nat → Int) (hst : o_st g M) (hwf : o_wf M) (u : Int) (hu : o_R u) : o_Ct l yX10_faultOfNewOil wX10_faultOfNewOil (d + 1) o_no [.ref 1, .int (o_I u)] o_N (o_mem g) 0 0 (o_is (some (.int (o_I (f_oil M u)))) o_N (o_mem g)) := by
  refine o_Ct.ofV hl mX10_faultOfNewOil (by decide +kernel) rfl rfl rfl (Nat.le_of_ble_eq_true rfl) ?_
  obtain ⟨hrs, hrl, hrq, hg3, hg4, hg5, hg6⟩ := id hst
  obtain ⟨⟨hws, hwl, hwq, hwo, hwle, hwrq, hwrd⟩, hwh, hwc, hwe⟩ := id hwf
  have hs0 := hrs.1
  have hl0 := hrl.1
  have hq0 := hrq.1
  have hs1 := o_rs2 hrs
  have hl1 := o_rl6 hrl
  have hq1 := o_rq12 hrq
  obtain ⟨hw1, hw2, hw3⟩ := id hws
  obtain ⟨hw4, hw5, hw6, hw7, hw8⟩ := id hwl
  obtain ⟨hw9, hw10, hw11⟩ := id hwq
  obtain ⟨u1, u2⟩ := id hu
  refine o_iload_n dX10_faultOfNewOil_0 rfl ?_
  refine o_iconst dX10_faultOfNewOil_1 ?_
  refine o_icmp_lt (tgt := 12) dX10_faultOfNewOil_2 (by decide) ⟨by omega, by omega⟩ ⟨by omega, by omega⟩ (fun c_2 => ?_) (fun c_2 => ?_)
  · skip
    refine o_bipush dX10_faultOfNewOil_12 (by decide) ?_
    refine o_ret1 dX10_faultOfNewOil_14 (by first | exact o_rcN _ (by omega) (by omega)) ?_
    exact o_isI (by unfold f_oil; (try simp only [Int.toNat_natCast] at *); (repeat' split) <;> omega)
  · skip
    refine o_iload_n dX10_faultOfNewOil_5 rfl ?_
    refine o_sipush dX10_faultOfNewOil_6 (by decide) ?_
    refine o_icmp_le (tgt := 15) dX10_faultOfNewOil_9 (by decide) ⟨by omega, by omega⟩ ⟨by omega, by omega⟩ (fun c_9 => ?_) (fun c_9 => ?_)
    · skip
      refine o_aload_n dX10_faultOfNewOil_15 rfl ?_
      refine o_gf dX10_faultOfNewOil_16 fl_X10_37 rfl (by decide) rfl ?_
      refine o_iload_n dX10_faultOfNewOil_19 rfl ?_
      refine o_iadd dX10_faultOfNewOil_20 ?_
      refine o_sipush dX10_faultOfNewOil_21 (by decide) ?_
      refine o_icmp_le (tgt := 32) dX10_faultOfNewOil_24 (by decide) ⟨by omega, by omega⟩ ⟨by omega, by omega⟩ (fun c_24 => ?_) (fun c_24 => ?_)
      · skip
        refine o_bipush dX10_faultOfNewOil_32 (by decide) ?_
        refine o_ret1 dX10_faultOfNewOil_34 (by first | exact o_rcN _ (by omega) (by omega)) ?_
        exact o_isI (by unfold f_oil; (try simp only [Int.toNat_natCast] at *); (repeat' split) <;> omega)
      · skip
        refine o_bipush dX10_faultOfNewOil_27 (by decide) ?_
        refine o_goto (tgt := 34) dX10_faultOfNewOil_29 (by decide) ?_
        refine o_ret1 dX10_faultOfNewOil_34 (by first | exact o_rcN _ (by omega) (by omega)) ?_
        exact o_isI (by unfold f_oil; (try simp only [Int.toNat_natCast] at *); (repeat' split) <;> omega)
    · skip
      refine o_bipush dX10_faultOfNewOil_12 (by decide) ?_
      refine o_ret1 dX10_faultOfNewOil_14 (by first | exact o_rcN _ (by omega) (by omega)) ?_
      exact o_isI (by unfold f_oil; (try simp only [Int.toNat_natCast] at *); (repeat' split) <;> omega)
set_option maxRecDepth 100000 in
set_option maxHeartbeats 4000000 in
/-- faultOfWait(t) -/
theorem ct_X10_faultOfWait {l : Launch} (hl : l.stackTraces = false) (d : Nat) (g : Nat → Nat → Int) (M : Nat → Nat → Int) (hst : o_st g M) (hwf : o_wf M) (t : Int) (ht : o_R t) : o_Ct l yX10_faultOfWait wX10_faultOfWait (d + 1) o_no [.ref 1, .int (o_I t)] o_N (o_mem g) 0 0 (o_is (some (.int (o_I (f_wait t)))) o_N (o_mem g)) := by
  refine o_Ct.ofV hl mX10_faultOfWait (by decide +kernel) rfl rfl rfl (Nat.le_of_ble_eq_true rfl) ?_
  obtain ⟨hrs, hrl, hrq, hg3, hg4, hg5, hg6⟩ := id hst
  obtain ⟨⟨hws, hwl, hwq, hwo, hwle, hwrq, hwrd⟩, hwh, hwc, hwe⟩ := id hwf
  have hs0 := hrs.1
  have hl0 := hrl.1
  have hq0 := hrq.1
  have hs1 := o_rs2 hrs
  have hl1 := o_rl6 hrl
  have hq1 := o_rq12 hrq
  obtain ⟨hw1, hw2, hw3⟩ := id hws
  obtain ⟨hw4, hw5, hw6, hw7, hw8⟩ := id hwl
  obtain ⟨hw9, hw10, hw11⟩ := id hwq
  obtain ⟨t1, t2⟩ := id ht
  refine o_iload_n dX10_faultOfWait_0 rfl ?_
  refine o_iconst dX10_faultOfWait_1 ?_
  refine o_icmp_lt (tgt := 11) dX10_faultOfWait_2 (by decide) ⟨by omega, by omega⟩ ⟨by omega, by omega⟩ (fun c_2 => ?_) (fun c_2 => ?_)
  · skip
    refine o_bipush dX10_faultOfWait_11 (by decide) ?_
    refine o_goto (tgt := 18) dX10_faultOfWait_13 (by decide) ?_
    refine o_ret1 dX10_faultOfWait_18 (by first | exact o_rcN _ (by omega) (by omega)) ?_
    exact o_isI (by unfold f_wait; (try simp only [Int.toNat_natCast] at *); (repeat' split) <;> omega)
  · skip
    refine o_iload_n dX10_faultOfWait_5 rfl ?_
    refine o_bipush dX10_faultOfWait_6 (by decide) ?_
    refine o_icmp_le (tgt := 16) dX10_faultOfWait_8 (by decide) ⟨by omega, by omega⟩ ⟨by omega, by omega⟩ (fun c_8 => ?_) (fun c_8 => ?_)
    · skip
      refine o_bipush dX10_faultOfWait_16 (by decide) ?_
      refine o_ret1 dX10_faultOfWait_18 (by first | exact o_rcN _ (by omega) (by omega)) ?_
      exact o_isI (by unfold f_wait; (try simp only [Int.toNat_natCast] at *); (repeat' split) <;> omega)
    · skip
      refine o_bipush dX10_faultOfWait_11 (by decide) ?_
      refine o_goto (tgt := 18) dX10_faultOfWait_13 (by decide) ?_
      refine o_ret1 dX10_faultOfWait_18 (by first | exact o_rcN _ (by omega) (by omega)) ?_
      exact o_isI (by unfold f_wait; (try simp only [Int.toNat_natCast] at *); (repeat' split) <;> omega)
set_option maxRecDepth 100000 in
set_option maxHeartbeats 4000000 in
/-- isNoLeaseTime(t) -/
theorem ct_X10_isNoLeaseTime {l : Launch} (hl : l.stackTraces = false) (d : Nat) (g : Nat → Nat → Int) (t : Int) (ht : o_R t) : o_Ct l yX10_isNoLeaseTime wX10_isNoLeaseTime (d + 1) o_no [.int (o_I t)] o_N (o_mem g) 0 0 (o_is (some (.int (o_I (o_b (t < 1 ∨ 24 < t))))) o_N (o_mem g)) := by
  refine o_Ct.ofV hl mX10_isNoLeaseTime (by decide +kernel) rfl rfl rfl (Nat.le_of_ble_eq_true rfl) ?_
  obtain ⟨t1, t2⟩ := id ht
  refine o_iload_n dX10_isNoLeaseTime_0 rfl ?_
  refine o_iconst dX10_isNoLeaseTime_1 ?_
  refine o_icmp_lt (tgt := 11) dX10_isNoLeaseTime_2 (by decide) ⟨by omega, by omega⟩ ⟨by omega, by omega⟩ (fun c_2 => ?_) (fun c_2 => ?_)
  · skip
    refine o_iconst dX10_isNoLeaseTime_11 ?_
    refine o_goto (tgt := 16) dX10_isNoLeaseTime_12 (by decide) ?_
    refine o_ret1 dX10_isNoLeaseTime_16 (by first | exact o_rb0 | exact o_rb1 | exact o_bn _) ?_
    exact o_isB (by simp [o_b]; omega)
  · skip
    refine o_iload_n dX10_isNoLeaseTime_5 rfl ?_
    refine o_bipush dX10_isNoLeaseTime_6 (by decide) ?_
    refine o_icmp_le (tgt := 15) dX10_isNoLeaseTime_8 (by decide) ⟨by omega, by omega⟩ ⟨by omega, by omega⟩ (fun c_8 => ?_) (fun c_8 => ?_)
    · skip
      refine o_iconst dX10_isNoLeaseTime_15 ?_
      refine o_ret1 dX10_isNoLeaseTime_16 (by first | exact o_rb0 | exact o_rb1 | exact o_bn _) ?_
      exact o_isB (by simp [o_b]; omega)
    · skip
      refine o_iconst dX10_isNoLeaseTime_11 ?_
      refine o_goto (tgt := 16) dX10_isNoLeaseTime_12 (by decide) ?_
      refine o_ret1 dX10_isNoLeaseTime_16 (by first | exact o_rb0 | exact o_rb1 | exact o_bn _) ?_
      exact o_isB (by simp [o_b]; omega)
set_option maxRecDepth 100000 in
set_option maxHeartbeats 4000000 in
/-- price(x, t) -/
theorem ct_X10_price {l : Launch} (hl : l.stackTraces = false) (d : Nat) (g : Nat → Nat → Int) (M : Nat → Nat → Int) (hst : o_st g M) (hwf : o_wf M) (x : Int) (hx : o_R x) (t : Int) (ht : o_R t) : o_Ct l yX10_price wX10_price (d + 2) o_no [.ref 1, .int (o_I x), .int (o_I t)] o_N (o_mem g) 0 0 (o_is (some (.int (o_I (if 0 ≤ x ∧ x < M 0 1 then M 4 x.toNat * t else 0)))) o_N (o_mem g)) := by
  refine o_Ct.ofV hl mX10_price (by decide +kernel) rfl rfl rfl (Nat.le_of_ble_eq_true rfl) ?_
  obtain ⟨hrs, hrl, hrq, hg3, hg4, hg5, hg6⟩ := id hst
  obtain ⟨⟨hws, hwl, hwq, hwo, hwle, hwrq, hwrd⟩, hwh, hwc, hwe⟩ := id hwf
  have hs0 := hrs.1
  have hl0 := hrl.1
  have hq0 := hrq.1
  have hs1 := o_rs2 hrs
  have hl1 := o_rl6 hrl
  have hq1 := o_rq12 hrq
  obtain ⟨hw1, hw2, hw3⟩ := id hws
  obtain ⟨hw4, hw5, hw6, hw7, hw8⟩ := id hwl
  obtain ⟨hw9, hw10, hw11⟩ := id hwq
  obtain ⟨x1, x2⟩ := id hx
  obtain ⟨t1, t2⟩ := id ht
  refine o_aload_n dX10_price_0 rfl ?_
  refine o_gf dX10_price_1 fl_X10_21 rfl (by decide) rfl ?_
  refine o_iload_n dX10_price_4 rfl ?_
  refine o_cV _ (ct_X7_exists hl d g M hrl hwl x hx) dX10_price_5 ml_X10_44 yw_X7_exists rfl (by decide) (by omega) (by decide) rfl rfl rfl (Nat.le_of_ble_eq_true rfl) ?_
  refine o_ifb_eq (tgt := 25) dX10_price_8 (by decide) (fun c_8 => ?_) (fun c_8 => ?_)
  · skip
    refine o_iconst dX10_price_25 ?_
    refine o_ret1 dX10_price_26 trivial ?_
    try simp only [Int.toNat_natCast]
    exact o_isI (by split <;> first | omega | rw [hj9.1] | rfl)
  · skip
    obtain ⟨j, rfl⟩ : ∃ j : Nat, (j : Int) = x := ⟨x.toNat, by omega⟩
    have hj9 := hl1 j (by omega)
    refine o_aload_n dX10_price_11 rfl ?_
    refine o_gf dX10_price_12 fl_X10_21 rfl (by decide) rfl ?_
    refine o_gf dX10_price_15 fl_X10_63 rfl (by decide) rfl ?_
    refine o_iload_n dX10_price_18 rfl ?_
    refine o_ialdn (j := j) dX10_price_19 (by decide) rfl (by decide) rfl (by omega) ?_
    refine o_iload_n dX10_price_20 rfl ?_
    refine o_imul dX10_price_21 ?_
    refine o_goto (tgt := 26) dX10_price_22 (by decide) ?_
    refine o_ret1 dX10_price_26 trivial ?_
    try simp only [Int.toNat_natCast]
    exact o_isI (by split <;> first | omega | rw [hj9.1] | rfl)
set_option maxRecDepth 100000 in
set_option maxHeartbeats 4000000 in
/-- faultOfUnleased(x) -/
theorem ct_X10_faultOfUnleased {l : Launch} (hl : l.stackTraces = false) (d : Nat) (g : Nat → Nat → Int) (M : Nat → Nat → Int) (hst : o_st g M) (hwf : o_wf M) (x : Int) (hx : o_R x) : o_Ct l yX10_faultOfUnleased wX10_faultOfUnleased (d + 2) o_no [.ref 1, .int (o_I x)] o_N (o_mem g) 0 0 (o_is (some (.int (o_I (f_unl M x)))) o_N (o_mem g)) := by
  refine o_Ct.ofV hl mX10_faultOfUnleased (by decide +kernel) rfl rfl rfl (Nat.le_of_ble_eq_true rfl) ?_
  obtain ⟨hrs, hrl, hrq, hg3, hg4, hg5, hg6⟩ := id hst
  obtain ⟨⟨hws, hwl, hwq, hwo, hwle, hwrq, hwrd⟩, hwh, hwc, hwe⟩ := id hwf
  have hs0 := hrs.1
  have hl0 := hrl.1
  have hq0 := hrq.1
  have hs1 := o_rs2 hrs
  have hl1 := o_rl6 hrl
  have hq1 := o_rq12 hrq
  obtain ⟨hw1, hw2, hw3⟩ := id hws
  obtain ⟨hw4, hw5, hw6, hw7, hw8⟩ := id hwl
  obtain ⟨hw9, hw10, hw11⟩ := id hwq
  obtain ⟨x1, x2⟩ := id hx
  refine o_aload_n dX10_faultOfUnleased_0 rfl ?_
  refine o_gf dX10_faultOfUnleased_1 fl_X10_21 rfl (by decide) rfl ?_
  refine o_iload_n dX10_faultOfUnleased_4 rfl ?_
  refine o_cV _ (ct_X7_exists hl d g M hrl hwl x hx) dX10_faultOfUnleased_5 ml_X10_44 yw_X7_exists rfl (by decide) (by omega) (by decide) rfl rfl rfl (Nat.le_of_ble_eq_true rfl) ?_
  refine o_ifb_ne (tgt := 14) dX10_faultOfUnleased_8 (by decide) (fun c_8 => ?_) (fun c_8 => ?_)
  · skip
    refine o_aload_n dX10_faultOfUnleased_14 rfl ?_
    refine o_gf dX10_faultOfUnleased_15 fl_X10_21 rfl (by decide) rfl ?_
    refine o_iload_n dX10_faultOfUnleased_18 rfl ?_
    refine o_cV _ (ct_X7_isTaken hl d g M hrl hwl x hx) dX10_faultOfUnleased_19 ml_X10_48 yw_X7_isTaken rfl (by decide) (by omega) (by decide) rfl rfl rfl (Nat.le_of_ble_eq_true rfl) ?_
    refine o_ifb_eq (tgt := 30) dX10_faultOfUnleased_22 (by decide) (fun c_22 => ?_) (fun c_22 => ?_)
    · skip
      refine o_bipush dX10_faultOfUnleased_30 (by decide) ?_
      refine o_ret1 dX10_faultOfUnleased_32 (by first | exact o_rcN _ (by omega) (by omega)) ?_
      exact o_isI (by unfold f_unl; (try simp only [Int.toNat_natCast] at *); (repeat' split) <;> omega)
    · skip
      refine o_bipush dX10_faultOfUnleased_25 (by decide) ?_
      refine o_goto (tgt := 32) dX10_faultOfUnleased_27 (by decide) ?_
      refine o_ret1 dX10_faultOfUnleased_32 (by first | exact o_rcN _ (by omega) (by omega)) ?_
      exact o_isI (by unfold f_unl; (try simp only [Int.toNat_natCast] at *); (repeat' split) <;> omega)
  · skip
    refine o_bipush dX10_faultOfUnleased_11 (by decide) ?_
    refine o_ret1 dX10_faultOfUnleased_13 (by first | exact o_rcN _ (by omega) (by omega)) ?_
    exact o_isI (by unfold f_unl; (try simp only [Int.toNat_natCast] at *); (repeat' split) <;> omega)
set_option maxRecDepth 100000 in
set_option maxHeartbeats 4000000 in
/-- faultOfRequest(x, t) -/
theorem ct_X10_faultOfRequest {l : Launch} (hl : l.stackTraces = false) (d : Nat) (g : Nat → Nat → Int) (M : Nat → Nat → Int) (hst : o_st g M) (hwf : o_wf M) (x : Int) (hx : o_R x) (t : Int) (ht : o_R t) (r : Int) (hr9 : o_fst (fun i => M 9 i = x) (M 0 6).toNat r) : o_Ct l yX10_faultOfRequest wX10_faultOfRequest (d + 2) o_no [.ref 1, .int (o_I x), .int (o_I t)] o_N (o_mem g) 0 0 (o_is (some (.int (o_I (f_req M x t r)))) o_N (o_mem g)) := by
  refine o_Ct.ofV hl mX10_faultOfRequest (by decide +kernel) rfl rfl rfl (Nat.le_of_ble_eq_true rfl) ?_
  obtain ⟨hrs, hrl, hrq, hg3, hg4, hg5, hg6⟩ := id hst
  obtain ⟨⟨hws, hwl, hwq, hwo, hwle, hwrq, hwrd⟩, hwh, hwc, hwe⟩ := id hwf
  have hs0 := hrs.1
  have hl0 := hrl.1
  have hq0 := hrq.1
  have hs1 := o_rs2 hrs
  have hl1 := o_rl6 hrl
  have hq1 := o_rq12 hrq
  obtain ⟨hw1, hw2, hw3⟩ := id hws
  obtain ⟨hw4, hw5, hw6, hw7, hw8⟩ := id hwl
  obtain ⟨hw9, hw10, hw11⟩ := id hwq
  obtain ⟨x1, x2⟩ := id hx
  obtain ⟨t1, t2⟩ := id ht
  refine o_aload_n dX10_faultOfRequest_0 rfl ?_
  refine o_gf dX10_faultOfRequest_1 fl_X10_21 rfl (by decide) rfl ?_
  refine o_iload_n dX10_faultOfRequest_4 rfl ?_
  refine o_cV _ (ct_X7_exists hl d g M hrl hwl x hx) dX10_faultOfRequest_5 ml_X10_44 yw_X7_exists rfl (by decide) (by omega) (by decide) rfl rfl rfl (Nat.le_of_ble_eq_true rfl) ?_
  refine o_ifb_ne (tgt := 14) dX10_faultOfRequest_8 (by decide) (fun c_8 => ?_) (fun c_8 => ?_)
  · skip
    refine o_iload_n dX10_faultOfRequest_14 rfl ?_
    refine o_cS _ (ct_X10_isNoLeaseTime hl d g t ht) dX10_faultOfRequest_15 ml_X10_45 ys_X10_isNoLeaseTime rfl (by decide) (by omega) rfl (Nat.le_of_ble_eq_true rfl) ?_
    refine o_ifb_eq (tgt := 24) dX10_faultOfRequest_18 (by decide) (fun c_18 => ?_) (fun c_18 => ?_)
    · skip
      refine o_aload_n dX10_faultOfRequest_24 rfl ?_
      refine o_gf dX10_faultOfRequest_25 fl_X10_21 rfl (by decide) rfl ?_
      refine o_iload_n dX10_faultOfRequest_28 rfl ?_
      refine o_cV _ (ct_X7_isTaken hl d g M hrl hwl x hx) dX10_faultOfRequest_29 ml_X10_48 yw_X7_isTaken rfl (by decide) (by omega) (by decide) rfl rfl rfl (Nat.le_of_ble_eq_true rfl) ?_
      refine o_ifb_ne (tgt := 38) dX10_faultOfRequest_32 (by decide) (fun c_32 => ?_) (fun c_32 => ?_)
      · skip
        refine o_aload_n dX10_faultOfRequest_38 rfl ?_
        refine o_gf dX10_faultOfRequest_39 fl_X10_28 rfl (by decide) rfl ?_
        refine o_iload_n dX10_faultOfRequest_42 rfl ?_
        refine o_cV _ (ct_X8_positionOf hl d g M hrq hwq hw5 x hx r hr9) dX10_faultOfRequest_43 ml_X10_59 yw_X8_positionOf rfl (by decide) (by omega) (by decide) rfl rfl rfl (Nat.le_of_ble_eq_true rfl) ?_
        have hr8 : -1 ≤ r ∧ r < 8 := o_fst_R hr9 (by omega)
        refine o_iconst dX10_faultOfRequest_46 ?_
        refine o_icmp_eq (tgt := 55) dX10_faultOfRequest_47 (by decide) ⟨by omega, by omega⟩ ⟨by omega, by omega⟩ (fun c_47 => ?_) (fun c_47 => ?_)
        · skip
          refine o_bipush dX10_faultOfRequest_55 (by decide) ?_
          refine o_ret1 dX10_faultOfRequest_57 (by first | exact o_rcN _ (by omega) (by omega)) ?_
          exact o_isI (by unfold f_req; (try simp only [Int.toNat_natCast] at *); (repeat' split) <;> omega)
        · skip
          refine o_bipush dX10_faultOfRequest_50 (by decide) ?_
          refine o_goto (tgt := 57) dX10_faultOfRequest_52 (by decide) ?_
          refine o_ret1 dX10_faultOfRequest_57 (by first | exact o_rcN _ (by omega) (by omega)) ?_
          exact o_isI (by unfold f_req; (try simp only [Int.toNat_natCast] at *); (repeat' split) <;> omega)
      · skip
        refine o_bipush dX10_faultOfRequest_35 (by decide) ?_
        refine o_ret1 dX10_faultOfRequest_37 (by first | exact o_rcN _ (by omega) (by omega)) ?_
        exact o_isI (by unfold f_req; (try simp only [Int.toNat_natCast] at *); (repeat' split) <;> omega)
    · skip
      refine o_bipush dX10_faultOfRequest_21 (by decide) ?_
      refine o_ret1 dX10_faultOfRequest_23 (by first | exact o_rcN _ (by omega) (by omega)) ?_
      exact o_isI (by unfold f_req; (try simp only [Int.toNat_natCast] at *); (repeat' split) <;> omega)
  · skip
    refine o_bipush dX10_faultOfRequest_11 (by decide) ?_
    refine o_ret1 dX10_faultOfRequest_13 (by first | exact o_rcN _ (by omega) (by omega)) ?_
    exact o_isI (by unfold f_req; (try simp only [Int.toNat_natCast] at *); (repeat' split) <;> omega)
set_option maxRecDepth 100000 in
set_option maxHeartbeats 4000000 in
/-- faultOfLease(s, x, t) -/
theorem ct_X10_faultOfLease {l : Launch} (hl : l.stackTraces = false) (d : Nat) (g : Nat → Nat → Int) (M : Nat → Nat → Int) (hst : o_st g M) (hwf : o_wf M) (s : Int) (hs : o_R s) (x : Int) (hx : o_R x) (t : Int) (ht : o_R t) : o_Ct l yX10_faultOfLease wX10_faultOfLease (d + 3) o_no [.ref 1, .int (o_I s), .int (o_I x), .int (o_I t)] o_N (o_mem g) 0 0 (o_is (some (.int (o_I (f_lease M s x t)))) o_N (o_mem g)) := by
  refine o_Ct.ofV hl mX10_faultOfLease (by decide +kernel) rfl rfl rfl (Nat.le_of_ble_eq_true rfl) ?_
  obtain ⟨hrs, hrl, hrq, hg3, hg4, hg5, hg6⟩ := id hst
  obtain ⟨⟨hws, hwl, hwq, hwo, hwle, hwrq, hwrd⟩, hwh, hwc, hwe⟩ := id hwf
  have hs0 := hrs.1
  have hl0 := hrl.1
  have hq0 := hrq.1
  have hs1 := o_rs2 hrs
  have hl1 := o_rl6 hrl
  have hq1 := o_rq12 hrq
  obtain ⟨hw1, hw2, hw3⟩ := id hws
  obtain ⟨hw4, hw5, hw6, hw7, hw8⟩ := id hwl
  obtain ⟨hw9, hw10, hw11⟩ := id hwq
  obtain ⟨s1, s2⟩ := id hs
  obtain ⟨x1, x2⟩ := id hx
  obtain ⟨t1, t2⟩ := id ht
  refine o_aload_n dX10_faultOfLease_0 rfl ?_
  refine o_gf dX10_faultOfLease_1 fl_X10_12 rfl (by decide) rfl ?_
  refine o_iload_n dX10_faultOfLease_4 rfl ?_
  refine o_cV _ (ct_X9_exists hl (d + 1) g M hrs hws s hs) dX10_faultOfLease_5 ml_X10_40 yw_X9_exists rfl (by decide) (by omega) (by decide) rfl rfl rfl (Nat.le_of_ble_eq_true rfl) ?_
  refine o_ifb_eq (tgt := 22) dX10_faultOfLease_8 (by decide) (fun c_8 => ?_) (fun c_8 => ?_)
  · skip
    refine o_bipush dX10_faultOfLease_22 (by decide) ?_
    refine o_ret1 dX10_faultOfLease_24 (by first | exact o_rcN _ (by omega) (by omega)) ?_
    exact o_isI (by unfold f_lease; (try simp only [Int.toNat_natCast] at *); (repeat' split) <;> omega)
  · skip
    refine o_aload_n dX10_faultOfLease_11 rfl ?_
    refine o_gf dX10_faultOfLease_12 fl_X10_21 rfl (by decide) rfl ?_
    refine o_iload_n dX10_faultOfLease_15 rfl ?_
    refine o_cV _ (ct_X7_exists hl (d + 1) g M hrl hwl x hx) dX10_faultOfLease_16 ml_X10_44 yw_X7_exists rfl (by decide) (by omega) (by decide) rfl rfl rfl (Nat.le_of_ble_eq_true rfl) ?_
    refine o_ifb_ne (tgt := 25) dX10_faultOfLease_19 (by decide) (fun c_19 => ?_) (fun c_19 => ?_)
    · skip
      refine o_iload_n dX10_faultOfLease_25 rfl ?_
      refine o_cS _ (ct_X10_isNoLeaseTime hl (d + 1) g t ht) dX10_faultOfLease_26 ml_X10_45 ys_X10_isNoLeaseTime rfl (by decide) (by omega) rfl (Nat.le_of_ble_eq_true rfl) ?_
      refine o_ifb_eq (tgt := 35) dX10_faultOfLease_29 (by decide) (fun c_29 => ?_) (fun c_29 => ?_)
      · skip
        refine o_aload_n dX10_faultOfLease_35 rfl ?_
        refine o_gf dX10_faultOfLease_36 fl_X10_21 rfl (by decide) rfl ?_
        refine o_iload_n dX10_faultOfLease_39 rfl ?_
        refine o_cV _ (ct_X7_isTaken hl (d + 1) g M hrl hwl x hx) dX10_faultOfLease_40 ml_X10_48 yw_X7_isTaken rfl (by decide) (by omega) (by decide) rfl rfl rfl (Nat.le_of_ble_eq_true rfl) ?_
        refine o_ifb_eq (tgt := 49) dX10_faultOfLease_43 (by decide) (fun c_43 => ?_) (fun c_43 => ?_)
        · skip
          refine o_aload_n dX10_faultOfLease_49 rfl ?_
          refine o_gf dX10_faultOfLease_50 fl_X10_12 rfl (by decide) rfl ?_
          refine o_iload_n dX10_faultOfLease_53 rfl ?_
          refine o_aload_n dX10_faultOfLease_54 rfl ?_
          refine o_iload_n dX10_faultOfLease_55 rfl ?_
          refine o_iload_n dX10_faultOfLease_56 rfl ?_
          obtain ⟨j, rfl⟩ : ∃ j : Nat, (j : Int) = x := ⟨x.toNat, by omega⟩
          have hj9 := (hw8 j (by omega)).1
          have hpr := o_pr hj9.1 hj9.2 (show 1 ≤ t by omega) (by omega)
          refine o_cV _ (ct_X10_price hl d g M hst hwf (j : Int) ⟨by omega, by omega⟩ t ht) dX10_faultOfLease_57 ml_X10_51 yw_X10_price rfl (by decide) (by omega) (by decide) rfl rfl rfl (Nat.le_of_ble_eq_true rfl) ?_
          rw [if_pos (by omega)]
          simp only [Int.toNat_natCast] at *
          refine o_cV _ (ct_X9_canPay hl (d + 1) g M hrs hws s _ hs ⟨by omega, by omega⟩) dX10_faultOfLease_60 ml_X10_55 yw_X9_canPay rfl (by decide) (by omega) (by decide) rfl rfl rfl (Nat.le_of_ble_eq_true rfl) ?_
          refine o_ifb_eq (tgt := 71) dX10_faultOfLease_63 (by decide) (fun c_63 => ?_) (fun c_63 => ?_)
          · skip
            refine o_bipush dX10_faultOfLease_71 (by decide) ?_
            refine o_ret1 dX10_faultOfLease_73 (by first | exact o_rcN _ (by omega) (by omega)) ?_
            exact o_isI (by unfold f_lease; (try simp only [Int.toNat_natCast] at *); (repeat' split) <;> omega)
          · skip
            refine o_bipush dX10_faultOfLease_66 (by decide) ?_
            refine o_goto (tgt := 73) dX10_faultOfLease_68 (by decide) ?_
            refine o_ret1 dX10_faultOfLease_73 (by first | exact o_rcN _ (by omega) (by omega)) ?_
            exact o_isI (by unfold f_lease; (try simp only [Int.toNat_natCast] at *); (repeat' split) <;> omega)
        · skip
          refine o_bipush dX10_faultOfLease_46 (by decide) ?_
          refine o_ret1 dX10_faultOfLease_48 (by first | exact o_rcN _ (by omega) (by omega)) ?_
          exact o_isI (by unfold f_lease; (try simp only [Int.toNat_natCast] at *); (repeat' split) <;> omega)
      · skip
        refine o_bipush dX10_faultOfLease_32 (by decide) ?_
        refine o_ret1 dX10_faultOfLease_34 (by first | exact o_rcN _ (by omega) (by omega)) ?_
        exact o_isI (by unfold f_lease; (try simp only [Int.toNat_natCast] at *); (repeat' split) <;> omega)
    · skip
      refine o_bipush dX10_faultOfLease_22 (by decide) ?_
      refine o_ret1 dX10_faultOfLease_24 (by first | exact o_rcN _ (by omega) (by omega)) ?_
      exact o_isI (by unfold f_lease; (try simp only [Int.toNat_natCast] at *); (repeat' split) <;> omega)
