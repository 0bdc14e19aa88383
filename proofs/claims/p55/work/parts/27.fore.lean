/-! forecasts -/
theorem o_st_fr {g g' M : Nat → Nat → Int} {S : Nat → Prop} (h : o_st g M) (hf : o_fr S g g') (hS : ∀ a, 1 ≤ a → a < 15 → ¬ S a) : o_st g' M := o_stb_fr (b := 1) h hf hS
def m_D (M : Nat → Nat → Int) (s : Int) : Int := o_sm (fun i => if 0 < M 5 i ∧ s < M 6 i then M 4 i else 0) (M 0 1).toNat
theorem m_D_R {M : Nat → Nat → Int} (h : o_wl M) (s : Int) : 0 ≤ m_D M s ∧ m_D M s ≤ 24 := by
  have := o_sm_le (f := fun i => if 0 < M 5 i ∧ s < M 6 i then M 4 i else 0) (n := (M 0 1).toNat) (m := 3) (fun i hi => by have u := (h.2.2.2.2 i (by omega)).1; split <;> omega)
  have h1 := h.1
  have h2 := h.2.1
  unfold m_D
  omega
def n_bo (M : Nat → Nat → Int) : Nat → Int
  | 0 => M 0 2
  | n + 1 => if 0 < M 5 n ∧ M 4 n ≤ n_bo M n then n_bo M n - M 4 n else n_bo M n
def n_bc (M : Nat → Nat → Int) : Nat → Int
  | 0 => 0
  | n + 1 => n_bc M n + o_b (0 < M 5 n ∧ M 4 n ≤ n_bo M n)
theorem n_bo_R {M : Nat → Nat → Int} (h : o_wl M) (ho : 0 ≤ M 0 2 ∧ M 0 2 ≤ 500) (n : Nat) (hn : (n : Int) ≤ M 0 1) : 0 ≤ n_bo M n ∧ n_bo M n ≤ 500 := by
  induction n with
  | zero => exact ho
  | succ n ih =>
    have t := ih (by omega)
    have u := (h.2.2.2.2 n (by omega)).1
    simp only [n_bo]
    split <;> omega
def n_lo (M : Nat → Nat → Int) (o v : Int) : Nat → Int
  | 0 => o
  | n + 1 => if 0 < M 5 n ∧ M 4 n = v ∧ v ≤ n_lo M o v n then n_lo M o v n - v else n_lo M o v n
def n_lc (M : Nat → Nat → Int) (o v : Int) : Nat → Int
  | 0 => 0
  | n + 1 => n_lc M o v n + o_b (0 < M 5 n ∧ M 4 n = v ∧ v ≤ n_lo M o v n)
theorem n_lo_R {M : Nat → Nat → Int} {o v : Int} (ho : 0 ≤ o ∧ o ≤ 500) (hv : 0 ≤ v) (n : Nat) : 0 ≤ n_lo M o v n ∧ n_lo M o v n ≤ 500 := by
  induction n with
  | zero => exact ho
  | succ n ih =>
    simp only [n_lo]
    split <;> omega
def n_oo (M : Nat → Nat → Int) : Nat → Int
  | 0 => M 0 2
  | k + 1 => n_lo M (n_oo M k) ((k + 1 : Nat) : Int) (M 0 1).toNat
def n_oc (M : Nat → Nat → Int) : Nat → Int
  | 0 => 0
  | k + 1 => n_oc M k + n_lc M (n_oo M k) ((k + 1 : Nat) : Int) (M 0 1).toNat
theorem n_oo_R {M : Nat → Nat → Int} (ho : 0 ≤ M 0 2 ∧ M 0 2 ≤ 500) (k : Nat) : 0 ≤ n_oo M k ∧ n_oo M k ≤ 500 := by
  induction k with
  | zero => exact ho
  | succ k ih => exact n_lo_R ih (by omega) _
/-- the hours of oil, hour by hour: so many more hours are looked at; from hour h on, with so much oil -/
def n_hp (M : Nat → Nat → Int) : Nat → Nat → Int → Int
  | 0, _, _ => -1
  | f + 1, h, o => if m_D M (M 0 3 + h) = 0 then -1 else if o < m_D M (M 0 3 + h) then h else n_hp M f (h + 1) (o - m_D M (M 0 3 + h))
/-- and by the ends of leases -/
def n_he (M : Nat → Nat → Int) : Nat → Int → Int → Int
  | 0, _, _ => -1
  | f + 1, s, o => if o_fe M s (M 0 1).toNat = -1 ∨ m_D M s = 0 then -1 else if o < m_D M s * (o_fe M s (M 0 1).toNat - s) then s - M 0 3 + o / m_D M s else n_he M f (o_fe M s (M 0 1).toNat) (o - m_D M s * (o_fe M s (M 0 1).toNat - s))
theorem o_fe_gt {M : Nat → Nat → Int} (s : Int) (n : Nat) : o_fe M s n = -1 ∨ s < o_fe M s n := by
  induction n with
  | zero => exact Or.inl rfl
  | succ n ih =>
    simp only [o_fe]
    split
    · rename_i c; exact Or.inr c.2.1
    · exact ih
theorem o_mulR {a b m k : Int} (h0 : 0 ≤ a) (h1 : a ≤ m) (h2 : 0 ≤ b) (h3 : b ≤ k) : 0 ≤ a * b ∧ a * b ≤ m * k := ⟨Int.mul_nonneg h0 h2, Int.mul_le_mul h1 h3 h2 (by omega)⟩
set_option maxRecDepth 100000 in
set_option maxHeartbeats 4000000 in
/-- nextBrightLamps(state) -/
theorem ct_X4_nextBrightLamps {l : Launch} (hl : l.stackTraces = false) (d : Nat) (g : Nat → Nat → Int) (M : Nat → Nat → Int) (hst : o_st g M) (hwk : o_wk M) : o_Ct l yX4_nextBrightLamps wX4_nextBrightLamps (d + 2) o_no [.ref 157, .ref 1] o_N (o_mem g) 0 0 (o_is (some (.int (o_I (n_bc M (M 0 1).toNat)))) o_N (o_mem g)) := by
  refine o_Ct.ofV hl mX4_nextBrightLamps (by decide +kernel) rfl rfl rfl (Nat.le_of_ble_eq_true rfl) ?_
  obtain ⟨hrs, hrl, hrq, hg3, hg4, hg5, hg6⟩ := id hst
  obtain ⟨hws, hwl, hwq, hwo, hwle, hwrq, hwrd⟩ := id hwk
  have hs0 := hrs.1
  have hl0 := hrl.1
  have hq0 := hrq.1
  have hs1 := o_rs2 hrs
  have hl1 := o_rl6 hrl
  have hq1 := o_rq12 hrq
  obtain ⟨hw1, hw2, hw3⟩ := id hws
  obtain ⟨hw4, hw5, hw6, hw7, hw8⟩ := id hwl
  obtain ⟨hw9, hw10, hw11⟩ := id hwq
  have key := o_lp (fun i => o_V l mX4_nextBrightLamps (d + 2) o_no (o_is (some (.int (o_I (n_bc M (M 0 1).toNat)))) o_N (o_mem g)) 10 [(1, .ref 1), (2, .int (o_I (n_bo M i))), (3, .int (o_I (n_bc M i))), (4, .int (o_I ((i : Nat) : Int)))] [] o_N (o_mem g) 0 0) (M 0 1).toNat (fun i hi ih => by

    refine o_iload dX4_nextBrightLamps_10 rfl ?_
    refine o_aload_n dX4_nextBrightLamps_12 rfl ?_
    refine o_gf dX4_nextBrightLamps_13 fl_X4_21 rfl (by decide) rfl ?_
    refine o_gf dX4_nextBrightLamps_16 fl_X4_37 rfl (by decide) rfl ?_
    refine o_icmp_ge (tgt := 70) dX4_nextBrightLamps_19 (by decide) ⟨by omega, by omega⟩ ⟨by omega, by omega⟩ (fun c_19 => ?_) (fun c_19 => ?_)
    · skip
      refine o_iload_n dX4_nextBrightLamps_70 rfl ?_
      refine o_ret1 dX4_nextBrightLamps_71 trivial ?_
      rw [show i = (M 0 1).toNat by omega]
      exact ⟨rfl, rfl, rfl⟩
    · skip
      have hi9 : (i : Int) < M 0 1 := by omega
      have hb8 := hw8 i hi9
      have hl8 := hl1 i hi9
      have ho9 := n_bo_R hwl hwo i (by omega)
      refine o_aload_n dX4_nextBrightLamps_22 rfl ?_
      refine o_gf dX4_nextBrightLamps_23 fl_X4_21 rfl (by decide) rfl ?_
      refine o_iload dX4_nextBrightLamps_26 rfl ?_
      refine o_cV _ (ct_isTakenN hl d g M hrl hwl i hi9) dX4_nextBrightLamps_28 ml_X4_40 yw_X7_isTaken rfl (by decide) (by omega) (by decide) rfl rfl rfl (Nat.le_of_ble_eq_true rfl) ?_
      refine o_ifb_eq (tgt := 64) dX4_nextBrightLamps_31 (by decide) (fun c_31 => ?_) (fun c_31 => ?_)
      · skip
        refine o_iinc dX4_nextBrightLamps_64 rfl (by decide) ?_
        refine o_goto (tgt := 10) dX4_nextBrightLamps_67 (by decide) ?_
        exact o_loc [(1, .ref 1), (2, .int (o_I (n_bo M (i + 1)))), (3, .int (o_I (n_bc M (i + 1)))), (4, .int (o_I (((i + 1) : Nat) : Int)))] (by simp only [n_bo, n_bc]; rw [if_neg (fun q => c_31 q.1), o_b0 (fun q => c_31 q.1), Int.add_zero]; rfl) (ih (by omega))
      · skip
        refine o_aload_n dX4_nextBrightLamps_34 rfl ?_
        refine o_gf dX4_nextBrightLamps_35 fl_X4_21 rfl (by decide) rfl ?_
        refine o_gf dX4_nextBrightLamps_38 fl_X4_44 rfl (by decide) rfl ?_
        refine o_iload dX4_nextBrightLamps_41 rfl ?_
        refine o_ialdn (j := i) dX4_nextBrightLamps_43 (by decide) rfl (by decide) rfl (by omega) ?_
        refine o_iload_n dX4_nextBrightLamps_44 rfl ?_
        refine o_icmp_gt (tgt := 64) dX4_nextBrightLamps_45 (by decide) ⟨by omega, by omega⟩ ⟨by omega, by omega⟩ (fun c_45 => ?_) (fun c_45 => ?_)
        · skip
          refine o_iinc dX4_nextBrightLamps_64 rfl (by decide) ?_
          refine o_goto (tgt := 10) dX4_nextBrightLamps_67 (by decide) ?_
          exact o_loc [(1, .ref 1), (2, .int (o_I (n_bo M (i + 1)))), (3, .int (o_I (n_bc M (i + 1)))), (4, .int (o_I (((i + 1) : Nat) : Int)))] (by simp only [n_bo, n_bc]; rw [if_neg (fun q => by have := q.2; omega), o_b0 (fun q => by have := q.2; omega), Int.add_zero]; rfl) (ih (by omega))
        · skip
          refine o_iload_n dX4_nextBrightLamps_48 rfl ?_
          refine o_aload_n dX4_nextBrightLamps_49 rfl ?_
          refine o_gf dX4_nextBrightLamps_50 fl_X4_21 rfl (by decide) rfl ?_
          refine o_gf dX4_nextBrightLamps_53 fl_X4_44 rfl (by decide) rfl ?_
          refine o_iload dX4_nextBrightLamps_56 rfl ?_
          refine o_ialdn (j := i) dX4_nextBrightLamps_58 (by decide) rfl (by decide) rfl (by omega) ?_
          rw [show g 7 i = M 4 i from hl8.1]
          refine o_isub dX4_nextBrightLamps_59 ?_
          refine o_istore_n dX4_nextBrightLamps_60 (by decide) ?_
          refine o_iinc dX4_nextBrightLamps_61 rfl (by decide) ?_
          refine o_iinc dX4_nextBrightLamps_64 rfl (by decide) ?_
          refine o_goto (tgt := 10) dX4_nextBrightLamps_67 (by decide) ?_
          exact o_loc [(1, .ref 1), (2, .int (o_I (n_bo M (i + 1)))), (3, .int (o_I (n_bc M (i + 1)))), (4, .int (o_I (((i + 1) : Nat) : Int)))] (by simp only [n_bo, n_bc]; rw [if_pos ⟨c_31, by omega⟩, o_b1 ⟨c_31, by omega⟩]; rfl) (ih (by omega)))
  refine o_aload_n dX4_nextBrightLamps_0 rfl ?_
  refine o_gf dX4_nextBrightLamps_1 fl_X4_15 rfl (by decide) rfl ?_
  refine o_istore_n dX4_nextBrightLamps_4 (by decide) ?_
  refine o_iconst dX4_nextBrightLamps_5 ?_
  refine o_istore_n dX4_nextBrightLamps_6 (by decide) ?_
  refine o_iconst dX4_nextBrightLamps_7 ?_
  refine o_istore dX4_nextBrightLamps_8 (by decide) ?_
  exact o_loc _ (by rw [hg3]; rfl) (key 0 (Nat.zero_le _))
set_option maxRecDepth 100000 in
set_option maxHeartbeats 4000000 in
/-- hoursByPassing(state) -/
theorem ct_X4_hoursByPassing {l : Launch} (hl : l.stackTraces = false) (d : Nat) (g : Nat → Nat → Int) (M : Nat → Nat → Int) (hst : o_st g M) (hwk : o_wk M) (r : Int) (hr9 : n_hp M 501 0 (M 0 2) = r) : o_Ct l yX4_hoursByPassing wX4_hoursByPassing (d + 3) o_no [.ref 157, .ref 1] o_N (o_mem g) 0 0 (o_is (some (.int (o_I r))) o_N (o_mem g)) := by
  refine o_Ct.ofV hl mX4_hoursByPassing (by decide +kernel) rfl rfl rfl (Nat.le_of_ble_eq_true rfl) ?_
  obtain ⟨hrs, hrl, hrq, hg3, hg4, hg5, hg6⟩ := id hst
  obtain ⟨hws, hwl, hwq, hwo, hwle, hwrq, hwrd⟩ := id hwk
  have hs0 := hrs.1
  have hl0 := hrl.1
  have hq0 := hrq.1
  have hs1 := o_rs2 hrs
  have hl1 := o_rl6 hrl
  have hq1 := o_rq12 hrq
  obtain ⟨hw1, hw2, hw3⟩ := id hws
  obtain ⟨hw4, hw5, hw6, hw7, hw8⟩ := id hwl
  obtain ⟨hw9, hw10, hw11⟩ := id hwq
  have key := o_lp (fun i => ∀ o : Int, 0 ≤ o → o ≤ 500 → n_hp M (501 - i) i o = r → o_V l mX4_hoursByPassing (d + 3) o_no (o_is (some (.int (o_I r))) o_N (o_mem g)) 7 [(1, .ref 1), (2, .int (o_I o)), (3, .int (o_I ((i : Nat) : Int)))] [] o_N (o_mem g) 0 0) 501 (fun i hi ih o ho0 ho1 hr => by

    refine o_iload_n dX4_hoursByPassing_7 rfl ?_
    refine o_sipush dX4_hoursByPassing_8 (by decide) ?_
    refine o_icmp_gt (tgt := 55) dX4_hoursByPassing_11 (by decide) ⟨by omega, by omega⟩ ⟨by omega, by omega⟩ (fun c_11 => ?_) (fun c_11 => ?_)
    · skip
      refine o_iconst dX4_hoursByPassing_55 ?_
      refine o_ret1 dX4_hoursByPassing_56 trivial ?_
      rw [show 501 - i = 0 by omega, n_hp] at hr
      rw [← hr]
      exact ⟨rfl, rfl, rfl⟩
    · skip
      have hD := m_D_R hwl (M 0 3 + i)
      obtain ⟨f, hf⟩ : ∃ f, 501 - i = f + 1 := ⟨500 - i, by omega⟩
      rw [hf, n_hp] at hr
      refine o_aload_n dX4_hoursByPassing_14 rfl ?_
      refine o_gf dX4_hoursByPassing_15 fl_X4_21 rfl (by decide) rfl ?_
      refine o_aload_n dX4_hoursByPassing_18 rfl ?_
      refine o_gf dX4_hoursByPassing_19 fl_X4_25 rfl (by decide) rfl ?_
      rw [hg4]
      refine o_iload_n dX4_hoursByPassing_22 rfl ?_
      refine o_iadd dX4_hoursByPassing_23 ?_
      refine o_cV _ (ct_X7_demandAfter hl d g M hrl hwl (M 0 3 + i) ⟨by omega, by omega⟩) dX4_hoursByPassing_24 ml_X4_28 yw_X7_demandAfter rfl (by decide) (by omega) (by decide) rfl rfl rfl (Nat.le_of_ble_eq_true rfl) ?_
      rw [show o_sm (fun j => if 0 < M 5 j ∧ M 0 3 + (i : Int) < M 6 j then M 4 j else 0) (M 0 1).toNat = m_D M (M 0 3 + i) from rfl]
      refine o_istore dX4_hoursByPassing_27 (by decide) ?_
      refine o_iload dX4_hoursByPassing_29 rfl ?_
      refine o_if_ne (tgt := 36) dX4_hoursByPassing_31 (by decide) ⟨by omega, by omega⟩ (fun c_31 => ?_) (fun c_31 => ?_)
      · skip
        refine o_iload dX4_hoursByPassing_36 rfl ?_
        refine o_iload_n dX4_hoursByPassing_38 rfl ?_
        refine o_icmp_le (tgt := 44) dX4_hoursByPassing_39 (by decide) ⟨by omega, by omega⟩ ⟨by omega, by omega⟩ (fun c_39 => ?_) (fun c_39 => ?_)
        · skip
          refine o_iload_n dX4_hoursByPassing_44 rfl ?_
          refine o_iload dX4_hoursByPassing_45 rfl ?_
          refine o_isub dX4_hoursByPassing_47 ?_
          refine o_istore_n dX4_hoursByPassing_48 (by decide) ?_
          refine o_iinc dX4_hoursByPassing_49 rfl (by decide) ?_
          refine o_goto (tgt := 7) dX4_hoursByPassing_52 (by decide) ?_
          rw [if_neg c_31, if_neg (by omega), show f = 501 - (i + 1) by omega] at hr
          exact o_loc [(1, .ref 1), (2, .int (o_I (o - m_D M (M 0 3 + i)))), (3, .int (o_I ((i + 1 : Nat) : Int)))] rfl (ih (by omega) _ (by omega) (by omega) hr)
        · skip
          refine o_iload_n dX4_hoursByPassing_42 rfl ?_
          refine o_ret1 dX4_hoursByPassing_43 trivial ?_
          rw [if_neg c_31, if_pos (by omega)] at hr
          rw [← hr]
          exact ⟨rfl, rfl, rfl⟩
      · skip
        refine o_iconst dX4_hoursByPassing_34 ?_
        refine o_ret1 dX4_hoursByPassing_35 trivial ?_
        rw [if_pos c_31] at hr
        rw [← hr]
        exact ⟨rfl, rfl, rfl⟩)
  refine o_aload_n dX4_hoursByPassing_0 rfl ?_
  refine o_gf dX4_hoursByPassing_1 fl_X4_15 rfl (by decide) rfl ?_
  refine o_istore_n dX4_hoursByPassing_4 (by decide) ?_
  refine o_iconst dX4_hoursByPassing_5 ?_
  refine o_istore_n dX4_hoursByPassing_6 (by decide) ?_
  exact o_loc _ (by rw [hg3]; rfl) (key 0 (Nat.zero_le _) (M 0 2) hwo.1 hwo.2 hr9)
set_option maxRecDepth 100000 in
set_option maxHeartbeats 4000000 in
/-- hoursByEndHours(state) -/
theorem ct_X4_hoursByEndHours {l : Launch} (hl : l.stackTraces = false) (d : Nat) (g : Nat → Nat → Int) (M : Nat → Nat → Int) (hst : o_st g M) (hwk : o_wk M) (r : Int) (hr9 : n_he M 8 (M 0 3) (M 0 2) = r) : o_Ct l yX4_hoursByEndHours wX4_hoursByEndHours (d + 3) o_no [.ref 157, .ref 1] o_N (o_mem g) 0 0 (o_is (some (.int (o_I r))) o_N (o_mem g)) := by
  refine o_Ct.ofV hl mX4_hoursByEndHours (by decide +kernel) rfl rfl rfl (Nat.le_of_ble_eq_true rfl) ?_
  obtain ⟨hrs, hrl, hrq, hg3, hg4, hg5, hg6⟩ := id hst
  obtain ⟨hws, hwl, hwq, hwo, hwle, hwrq, hwrd⟩ := id hwk
  have hs0 := hrs.1
  have hl0 := hrl.1
  have hq0 := hrq.1
  have hs1 := o_rs2 hrs
  have hl1 := o_rl6 hrl
  have hq1 := o_rq12 hrq
  obtain ⟨hw1, hw2, hw3⟩ := id hws
  obtain ⟨hw4, hw5, hw6, hw7, hw8⟩ := id hwl
  obtain ⟨hw9, hw10, hw11⟩ := id hwq
  have key := o_lp (fun i => ∀ s o : Int, M 0 3 ≤ s → s ≤ 2000100 → 0 ≤ o → o ≤ 500 → n_he M (8 - i) s o = r → o_V l mX4_hoursByEndHours (d + 3) o_no (o_is (some (.int (o_I r))) o_N (o_mem g)) 13 [(1, .ref 1), (2, .int (o_I o)), (3, .int (o_I s)), (4, .int (o_I ((i : Nat) : Int)))] [] o_N (o_mem g) 0 0) 8 (fun i hi ih s o hs8 hs9 ho0 ho1 hr => by

    refine o_iload dX4_hoursByEndHours_13 rfl ?_
    refine o_bipush dX4_hoursByEndHours_15 (by decide) ?_
    refine o_icmp_ge (tgt := 95) dX4_hoursByEndHours_17 (by decide) ⟨by omega, by omega⟩ ⟨by omega, by omega⟩ (fun c_17 => ?_) (fun c_17 => ?_)
    · skip
      refine o_iconst dX4_hoursByEndHours_95 ?_
      refine o_ret1 dX4_hoursByEndHours_96 trivial ?_
      rw [show 8 - i = 0 by omega, n_he] at hr
      rw [← hr]
      exact ⟨rfl, rfl, rfl⟩
    · skip
      have hD := m_D_R hwl s
      have hE := o_fe_R hwl s (M 0 1).toNat (by omega)
      have hG := o_fe_gt (M := M) s (M 0 1).toNat
      obtain ⟨f, hf⟩ : ∃ f, 8 - i = f + 1 := ⟨7 - i, by omega⟩
      rw [hf, n_he] at hr
      refine o_aload_n dX4_hoursByEndHours_20 rfl ?_
      refine o_gf dX4_hoursByEndHours_21 fl_X4_21 rfl (by decide) rfl ?_
      refine o_iload_n dX4_hoursByEndHours_24 rfl ?_
      refine o_cV _ (ct_X7_firstEndAfter hl d g M hrl hwl s ⟨by omega, by omega⟩) dX4_hoursByEndHours_25 ml_X4_34 yw_X7_firstEndAfter rfl (by decide) (by omega) (by decide) rfl rfl rfl (Nat.le_of_ble_eq_true rfl) ?_
      refine o_istore dX4_hoursByEndHours_28 (by decide) ?_
      refine o_aload_n dX4_hoursByEndHours_30 rfl ?_
      refine o_gf dX4_hoursByEndHours_31 fl_X4_21 rfl (by decide) rfl ?_
      refine o_iload_n dX4_hoursByEndHours_34 rfl ?_
      refine o_cV _ (ct_X7_demandAfter hl d g M hrl hwl s ⟨by omega, by omega⟩) dX4_hoursByEndHours_35 ml_X4_28 yw_X7_demandAfter rfl (by decide) (by omega) (by decide) rfl rfl rfl (Nat.le_of_ble_eq_true rfl) ?_
      rw [show o_sm (fun j => if 0 < M 5 j ∧ s < M 6 j then M 4 j else 0) (M 0 1).toNat = m_D M s from rfl]
      refine o_istore dX4_hoursByEndHours_38 (by decide) ?_
      refine o_iload dX4_hoursByEndHours_40 rfl ?_
      refine o_iconst dX4_hoursByEndHours_42 ?_
      refine o_icmp_eq (tgt := 51) dX4_hoursByEndHours_43 (by decide) ⟨by omega, by omega⟩ ⟨by omega, by omega⟩ (fun c_43 => ?_) (fun c_43 => ?_)
      · skip
        refine o_iconst dX4_hoursByEndHours_51 ?_
        refine o_ret1 dX4_hoursByEndHours_52 trivial ?_
        first
          | (rw [if_pos (Or.inl c_43)] at hr; rw [← hr]; exact ⟨rfl, rfl, rfl⟩)
          | (rw [if_pos (Or.inr (by omega))] at hr; rw [← hr]; exact ⟨rfl, rfl, rfl⟩)
      · skip
        refine o_iload dX4_hoursByEndHours_46 rfl ?_
        refine o_if_ne (tgt := 53) dX4_hoursByEndHours_48 (by decide) ⟨by omega, by omega⟩ (fun c_48 => ?_) (fun c_48 => ?_)
        · skip
          have hmul := o_mulR (a := m_D M s) (b := o_fe M s (M 0 1).toNat - s) (m := 24) (k := 2000100) (by omega) (by omega) (by omega) (by omega)
          refine o_iload dX4_hoursByEndHours_53 rfl ?_
          refine o_iload dX4_hoursByEndHours_55 rfl ?_
          refine o_iload_n dX4_hoursByEndHours_57 rfl ?_
          refine o_isub dX4_hoursByEndHours_58 ?_
          refine o_imul dX4_hoursByEndHours_59 ?_
          refine o_iload_n dX4_hoursByEndHours_60 rfl ?_
          refine o_icmp_le (tgt := 76) dX4_hoursByEndHours_61 (by decide) ⟨by omega, by omega⟩ ⟨by omega, by omega⟩ (fun c_61 => ?_) (fun c_61 => ?_)
          · skip
            refine o_iload_n dX4_hoursByEndHours_76 rfl ?_
            refine o_iload dX4_hoursByEndHours_77 rfl ?_
            refine o_iload dX4_hoursByEndHours_79 rfl ?_
            refine o_iload_n dX4_hoursByEndHours_81 rfl ?_
            refine o_isub dX4_hoursByEndHours_82 ?_
            refine o_imul dX4_hoursByEndHours_83 ?_
            refine o_isub dX4_hoursByEndHours_84 ?_
            refine o_istore_n dX4_hoursByEndHours_85 (by decide) ?_
            refine o_iload dX4_hoursByEndHours_86 rfl ?_
            refine o_istore_n dX4_hoursByEndHours_88 (by decide) ?_
            refine o_iinc dX4_hoursByEndHours_89 rfl (by decide) ?_
            refine o_goto (tgt := 13) dX4_hoursByEndHours_92 (by decide) ?_
            rw [if_neg (fun q => q.elim c_43 c_48), if_neg (by omega), show f = 8 - (i + 1) by omega] at hr
            exact o_loc [(1, .ref 1), (2, .int (o_I (o - m_D M s * (o_fe M s (M 0 1).toNat - s)))), (3, .int (o_I (o_fe M s (M 0 1).toNat))), (4, .int (o_I ((i + 1 : Nat) : Int)))] rfl (ih (by omega) _ _ (by omega) (by omega) (by omega) (by omega) hr)
          · skip
            refine o_iload_n dX4_hoursByEndHours_64 rfl ?_
            refine o_aload_n dX4_hoursByEndHours_65 rfl ?_
            refine o_gf dX4_hoursByEndHours_66 fl_X4_25 rfl (by decide) rfl ?_
            rw [hg4]
            refine o_isub dX4_hoursByEndHours_69 ?_
            refine o_iload_n dX4_hoursByEndHours_70 rfl ?_
            refine o_iload dX4_hoursByEndHours_71 rfl ?_
            refine o_idiv dX4_hoursByEndHours_73 ⟨by omega, by omega⟩ ⟨by omega, by omega⟩ (by omega) (by omega) ?_
            refine o_iadd dX4_hoursByEndHours_74 ?_
            refine o_ret1 dX4_hoursByEndHours_75 trivial ?_
            rw [if_neg (fun q => q.elim c_43 c_48), if_pos (by omega)] at hr
            rw [← hr]
            exact ⟨rfl, rfl, rfl⟩
        · skip
          refine o_iconst dX4_hoursByEndHours_51 ?_
          refine o_ret1 dX4_hoursByEndHours_52 trivial ?_
          first
            | (rw [if_pos (Or.inl c_43)] at hr; rw [← hr]; exact ⟨rfl, rfl, rfl⟩)
            | (rw [if_pos (Or.inr (by omega))] at hr; rw [← hr]; exact ⟨rfl, rfl, rfl⟩))
  refine o_aload_n dX4_hoursByEndHours_0 rfl ?_
  refine o_gf dX4_hoursByEndHours_1 fl_X4_15 rfl (by decide) rfl ?_
  refine o_istore_n dX4_hoursByEndHours_4 (by decide) ?_
  refine o_aload_n dX4_hoursByEndHours_5 rfl ?_
  refine o_gf dX4_hoursByEndHours_6 fl_X4_25 rfl (by decide) rfl ?_
  refine o_istore_n dX4_hoursByEndHours_9 (by decide) ?_
  refine o_iconst dX4_hoursByEndHours_10 ?_
  refine o_istore dX4_hoursByEndHours_11 (by decide) ?_
  exact o_loc _ (by rw [hg3, hg4]; rfl) (key 0 (Nat.zero_le _) (M 0 3) (M 0 2) (Int.le_refl _) (by omega) hwo.1 hwo.2 hr9)
set_option maxRecDepth 100000 in
set_option maxHeartbeats 4000000 in
/-- mostLampsByLevels(state) -/
theorem ct_X4_mostLampsByLevels {l : Launch} (hl : l.stackTraces = false) (d : Nat) (g : Nat → Nat → Int) (M : Nat → Nat → Int) (hst : o_st g M) (hwk : o_wk M) : o_Ct l yX4_mostLampsByLevels wX4_mostLampsByLevels (d + 2) o_no [.ref 157, .ref 1] o_N (o_mem g) 0 0 (o_is (some (.int (o_I (n_oc M 3)))) o_N (o_mem g)) := by
  refine o_Ct.ofV hl mX4_mostLampsByLevels (by decide +kernel) rfl rfl rfl (Nat.le_of_ble_eq_true rfl) ?_
  obtain ⟨hrs, hrl, hrq, hg3, hg4, hg5, hg6⟩ := id hst
  obtain ⟨hws, hwl, hwq, hwo, hwle, hwrq, hwrd⟩ := id hwk
  have hs0 := hrs.1
  have hl0 := hrl.1
  have hq0 := hrq.1
  have hs1 := o_rs2 hrs
  have hl1 := o_rl6 hrl
  have hq1 := o_rq12 hrq
  obtain ⟨hw1, hw2, hw3⟩ := id hws
  obtain ⟨hw4, hw5, hw6, hw7, hw8⟩ := id hwl
  obtain ⟨hw9, hw10, hw11⟩ := id hwq
  have key := o_lp (fun k => o_V l mX4_mostLampsByLevels (d + 2) o_no (o_is (some (.int (o_I (n_oc M 3)))) o_N (o_mem g)) 10 [(1, .ref 1), (2, .int (o_I (n_oo M k))), (3, .int (o_I (n_oc M k))), (4, .int (o_I (((k) + 1 : Nat) : Int)))] [] o_N (o_mem g) 0 0) 3 (fun k hi ih => by
    have hok := n_oo_R hwo k
    have keyn := fun (hk3 : k < 3) => o_lp (fun i => o_V l mX4_mostLampsByLevels (d + 2) o_no (o_is (some (.int (o_I (n_oc M 3)))) o_N (o_mem g)) 19 [(1, .ref 1), (2, .int (o_I (n_lo M (n_oo M k) ((k + 1 : Nat) : Int) i))), (3, .int (o_I (n_oc M k + n_lc M (n_oo M k) ((k + 1 : Nat) : Int) i))), (4, .int (o_I ((k + 1 : Nat) : Int))), (5, .int (o_I ((i : Nat) : Int)))] [] o_N (o_mem g) 0 0) (M 0 1).toNat (fun i hin ihn => by
      refine o_iload dX4_mostLampsByLevels_19 rfl ?_
      refine o_aload_n dX4_mostLampsByLevels_21 rfl ?_
      refine o_gf dX4_mostLampsByLevels_22 fl_X4_21 rfl (by decide) rfl ?_
      refine o_gf dX4_mostLampsByLevels_25 fl_X4_37 rfl (by decide) rfl ?_
      refine o_icmp_ge (tgt := 78) dX4_mostLampsByLevels_28 (by decide) ⟨by omega, by omega⟩ ⟨by omega, by omega⟩ (fun c_28 => ?_) (fun c_28 => ?_)
      · skip
        refine o_iinc dX4_mostLampsByLevels_78 rfl (by decide) ?_
        refine o_goto (tgt := 10) dX4_mostLampsByLevels_81 (by decide) ?_
        exact o_loc [(1, .ref 1), (2, .int (o_I (n_oo M (k + 1)))), (3, .int (o_I (n_oc M (k + 1)))), (4, .int (o_I ((((k + 1)) + 1 : Nat) : Int)))] (by rw [show i = (M 0 1).toNat by omega]; rfl) (ih (by omega))
      · skip
        have hi9 : (i : Int) < M 0 1 := by omega
        have hb8 := hw8 i hi9
        have hl8 := hl1 i hi9
        have ho9 := n_lo_R (M := M) (v := ((k + 1 : Nat) : Int)) hok (by omega) i
        refine o_aload_n dX4_mostLampsByLevels_31 rfl ?_
        refine o_gf dX4_mostLampsByLevels_32 fl_X4_21 rfl (by decide) rfl ?_
        refine o_iload dX4_mostLampsByLevels_35 rfl ?_
        refine o_cV _ (ct_isTakenN hl d g M hrl hwl i hi9) dX4_mostLampsByLevels_37 ml_X4_40 yw_X7_isTaken rfl (by decide) (by omega) (by decide) rfl rfl rfl (Nat.le_of_ble_eq_true rfl) ?_
        refine o_ifb_eq (tgt := 72) dX4_mostLampsByLevels_40 (by decide) (fun c_40 => ?_) (fun c_40 => ?_)
        · skip
          refine o_iinc dX4_mostLampsByLevels_72 rfl (by decide) ?_
          refine o_goto (tgt := 19) dX4_mostLampsByLevels_75 (by decide) ?_
          exact o_loc [(1, .ref 1), (2, .int (o_I (n_lo M (n_oo M k) ((k + 1 : Nat) : Int) (i + 1)))), (3, .int (o_I (n_oc M k + n_lc M (n_oo M k) ((k + 1 : Nat) : Int) (i + 1)))), (4, .int (o_I ((k + 1 : Nat) : Int))), (5, .int (o_I (((i + 1) : Nat) : Int)))] (by simp only [n_lo, n_lc]; rw [if_neg (fun q => c_40 q.1), o_b0 (fun q => c_40 q.1), Int.add_zero]; rfl) (ihn (by omega))
        · skip
          refine o_aload_n dX4_mostLampsByLevels_43 rfl ?_
          refine o_gf dX4_mostLampsByLevels_44 fl_X4_21 rfl (by decide) rfl ?_
          refine o_gf dX4_mostLampsByLevels_47 fl_X4_44 rfl (by decide) rfl ?_
          refine o_iload dX4_mostLampsByLevels_50 rfl ?_
          refine o_ialdn (j := i) dX4_mostLampsByLevels_52 (by decide) rfl (by decide) rfl (by omega) ?_
          refine o_iload dX4_mostLampsByLevels_53 rfl ?_
          refine o_icmp_ne (tgt := 72) dX4_mostLampsByLevels_55 (by decide) ⟨by omega, by omega⟩ ⟨by omega, by omega⟩ (fun c_55 => ?_) (fun c_55 => ?_)
          · skip
            refine o_iinc dX4_mostLampsByLevels_72 rfl (by decide) ?_
            refine o_goto (tgt := 19) dX4_mostLampsByLevels_75 (by decide) ?_
            exact o_loc [(1, .ref 1), (2, .int (o_I (n_lo M (n_oo M k) ((k + 1 : Nat) : Int) (i + 1)))), (3, .int (o_I (n_oc M k + n_lc M (n_oo M k) ((k + 1 : Nat) : Int) (i + 1)))), (4, .int (o_I ((k + 1 : Nat) : Int))), (5, .int (o_I (((i + 1) : Nat) : Int)))] (by simp only [n_lo, n_lc]; rw [if_neg (fun q => c_55 (by rw [hl8.1]; exact q.2.1)), o_b0 (fun q => c_55 (by rw [hl8.1]; exact q.2.1)), Int.add_zero]; rfl) (ihn (by omega))
          · skip
            refine o_iload dX4_mostLampsByLevels_58 rfl ?_
            refine o_iload_n dX4_mostLampsByLevels_60 rfl ?_
            refine o_icmp_gt (tgt := 72) dX4_mostLampsByLevels_61 (by decide) ⟨by omega, by omega⟩ ⟨by omega, by omega⟩ (fun c_61 => ?_) (fun c_61 => ?_)
            · skip
              refine o_iinc dX4_mostLampsByLevels_72 rfl (by decide) ?_
              refine o_goto (tgt := 19) dX4_mostLampsByLevels_75 (by decide) ?_
              exact o_loc [(1, .ref 1), (2, .int (o_I (n_lo M (n_oo M k) ((k + 1 : Nat) : Int) (i + 1)))), (3, .int (o_I (n_oc M k + n_lc M (n_oo M k) ((k + 1 : Nat) : Int) (i + 1)))), (4, .int (o_I ((k + 1 : Nat) : Int))), (5, .int (o_I (((i + 1) : Nat) : Int)))] (by simp only [n_lo, n_lc]; rw [if_neg (fun q => by have := q.2.2; omega), o_b0 (fun q => by have := q.2.2; omega), Int.add_zero]; rfl) (ihn (by omega))
            · skip
              refine o_iload_n dX4_mostLampsByLevels_64 rfl ?_
              refine o_iload dX4_mostLampsByLevels_65 rfl ?_
              refine o_isub dX4_mostLampsByLevels_67 ?_
              refine o_istore_n dX4_mostLampsByLevels_68 (by decide) ?_
              refine o_iinc dX4_mostLampsByLevels_69 rfl (by decide) ?_
              refine o_iinc dX4_mostLampsByLevels_72 rfl (by decide) ?_
              refine o_goto (tgt := 19) dX4_mostLampsByLevels_75 (by decide) ?_
              exact o_loc [(1, .ref 1), (2, .int (o_I (n_lo M (n_oo M k) ((k + 1 : Nat) : Int) (i + 1)))), (3, .int (o_I (n_oc M k + n_lc M (n_oo M k) ((k + 1 : Nat) : Int) (i + 1)))), (4, .int (o_I ((k + 1 : Nat) : Int))), (5, .int (o_I (((i + 1) : Nat) : Int)))] (by simp only [n_lo, n_lc]; rw [if_pos ⟨c_40, by omega, by omega⟩, o_b1 ⟨c_40, by omega, by omega⟩, ← Int.add_assoc]; rfl) (ihn (by omega)))
    refine o_iload dX4_mostLampsByLevels_10 rfl ?_
    refine o_iconst dX4_mostLampsByLevels_12 ?_
    refine o_icmp_gt (tgt := 84) dX4_mostLampsByLevels_13 (by decide) ⟨by omega, by omega⟩ ⟨by omega, by omega⟩ (fun c_13 => ?_) (fun c_13 => ?_)
    · skip
      refine o_iload_n dX4_mostLampsByLevels_84 rfl ?_
      refine o_ret1 dX4_mostLampsByLevels_85 trivial ?_
      rw [show k = 3 by omega]
      exact ⟨rfl, rfl, rfl⟩
    · skip
      refine o_iconst dX4_mostLampsByLevels_16 ?_
      refine o_istore dX4_mostLampsByLevels_17 (by decide) ?_
      exact o_loc _ (by simp only [n_lo, n_lc, Int.add_zero]; rfl) (keyn (by omega) 0 (Nat.zero_le _)))
  refine o_aload_n dX4_mostLampsByLevels_0 rfl ?_
  refine o_gf dX4_mostLampsByLevels_1 fl_X4_15 rfl (by decide) rfl ?_
  refine o_istore_n dX4_mostLampsByLevels_4 (by decide) ?_
  refine o_iconst dX4_mostLampsByLevels_5 ?_
  refine o_istore_n dX4_mostLampsByLevels_6 (by decide) ?_
  refine o_iconst dX4_mostLampsByLevels_7 ?_
  refine o_istore dX4_mostLampsByLevels_8 (by decide) ?_
  exact o_loc _ (by rw [hg3]; rfl) (key 0 (Nat.zero_le _))
