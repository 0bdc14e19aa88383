theorem ct_existsS {l : Launch} (hl : l.stackTraces = false) (d : Nat) (g : Nat → Nat → Int) (M : Nat → Nat → Int) (hr : o_rs g 2 M) (hw : o_ws M) (i : Nat) (hi : (i : Int) < M 0 0) : o_Ct l yX9_exists wX9_exists (d + 1) o_no [.ref 2, .int (o_I (i : Int))] o_N (o_mem g) 0 0 (o_is (some (.int (o_I 1))) o_N (o_mem g)) := by
  have h := ct_X9_exists hl d g M hr hw i ⟨by omega, by have := hw.2.1; omega⟩
  rw [show o_b (0 ≤ (i : Int) ∧ (i : Int) < M 0 0) = 1 from o_b1 ⟨by omega, hi⟩] at h
  exact h
def d_sh (M : Nat → Nat → Int) (s : Nat) : Int := d_q M s + o_b (d_rk M s < d_u M (M 0 0).toNat)
theorem d_q_R {M : Nat → Nat → Int} (h : o_wk M) (s : Nat) : 0 ≤ d_q M s ∧ d_q M s ≤ 12000 := by
  have h1 := d_all_R h.2.1
  have h2 := d_of_R h.2.1 s
  have h3 := h.2.2.2.1
  have h4 := o_mulR (a := M 0 2) (b := d_of M s) (m := 500) (k := 24) (by omega) (by omega) (by omega) (by omega)
  unfold d_q
  split
  · rename_i c
    have a := Int.ediv_nonneg h4.1 (show 0 ≤ d_all M by omega)
    have b := Int.ediv_le_self (d_all M) h4.1
    omega
  · omega
theorem d_u_R {M : Nat → Nat → Int} (h : o_wk M) (n : Nat) : -12000 * n ≤ d_u M n ∧ d_u M n ≤ 500 := by
  have h3 := h.2.2.2.1
  induction n with
  | zero => simp only [d_u]; split <;> omega
  | succ n ih =>
    have := d_q_R h n
    simp only [d_u]
    omega
set_option maxRecDepth 100000 in
set_option maxHeartbeats 4000000 in
/-- rankOf(ship, ships) -/
theorem ct_X3_rankOf {l : Launch} (hl : l.stackTraces = false) (d : Nat) (g : Nat → Nat → Int) (M : Nat → Nat → Int) (hwk : o_wk M) (hr : ∀ s : Nat, (s : Int) < M 0 0 → g 161 s = d_r M s) (s : Nat) (hs : (s : Int) < M 0 0) : o_Ct l yX3_rankOf wX3_rankOf (d + 1) o_no [.ref 159, .int (o_I (s : Int)), .int (o_I (M 0 0))] o_N (o_mem g) 0 0 (o_is (some (.int (o_I (d_rk M s)))) o_N (o_mem g)) := by
  refine o_Ct.ofV hl mX3_rankOf (by decide +kernel) rfl rfl rfl (Nat.le_of_ble_eq_true rfl) ?_
  obtain ⟨hws, hwl, hwq, hwo, hwle, hwrq, hwrd⟩ := id hwk
  obtain ⟨hw1, hw2, hw3⟩ := id hws
  have key := o_lp (fun i => o_V l mX3_rankOf (d + 1) o_no (o_is (some (.int (o_I (d_rk M s)))) o_N (o_mem g)) 5 [(0, .ref 159), (1, .int (o_I (s : Int))), (2, .int (o_I (M 0 0))), (3, .int (o_I (o_sm (fun o => o_b (d_ah M o s)) i))), (4, .int (o_I ((i : Nat) : Int)))] [] o_N (o_mem g) 0 0) (M 0 0).toNat (fun i hi ih => by
    refine o_iload dX3_rankOf_5 rfl ?_
    refine o_iload_n dX3_rankOf_7 rfl ?_
    refine o_icmp_ge (tgt := 65) dX3_rankOf_8 (by decide) ⟨by omega, by omega⟩ ⟨by omega, by omega⟩ (fun c_8 => ?_) (fun c_8 => ?_)
    · skip
      refine o_iload_n dX3_rankOf_65 rfl ?_
      refine o_ret1 dX3_rankOf_66 trivial ?_
      first
        | (rw [show i = (M 0 0).toNat by omega]; exact ⟨rfl, rfl, rfl⟩)
        | (exfalso; omega)
    · skip
      refine o_iload dX3_rankOf_11 rfl ?_
      refine o_bipush dX3_rankOf_13 (by decide) ?_
      refine o_icmp_ge (tgt := 65) dX3_rankOf_15 (by decide) ⟨by omega, by omega⟩ ⟨by omega, by omega⟩ (fun c_15 => ?_) (fun c_15 => ?_)
      · skip
        refine o_iload_n dX3_rankOf_65 rfl ?_
        refine o_ret1 dX3_rankOf_66 trivial ?_
        first
          | (rw [show i = (M 0 0).toNat by omega]; exact ⟨rfl, rfl, rfl⟩)
          | (exfalso; omega)
      · skip
        have hi9 : (i : Int) < M 0 0 := by omega
        have hi8 := hr i hi9
        have hs8 := hr s hs
        have r1 := d_r_R hwk i
        have r2 := d_r_R hwk s
        refine o_aload_n dX3_rankOf_18 rfl ?_
        refine o_gf dX3_rankOf_19 fl_X3_15 rfl (by decide) rfl ?_
        refine o_iload dX3_rankOf_22 rfl ?_
        refine o_ialdn (j := i) dX3_rankOf_24 (by decide) rfl (by decide) rfl (by omega) ?_
        refine o_aload_n dX3_rankOf_25 rfl ?_
        refine o_gf dX3_rankOf_26 fl_X3_15 rfl (by decide) rfl ?_
        refine o_iload_n dX3_rankOf_29 rfl ?_
        refine o_ialdn (j := s) dX3_rankOf_30 (by decide) rfl (by decide) rfl (by omega) ?_
        refine o_icmp_gt (tgt := 56) dX3_rankOf_31 (by decide) ⟨by omega, by omega⟩ ⟨by omega, by omega⟩ (fun c_31 => ?_) (fun c_31 => ?_)
        · skip
          refine o_iinc dX3_rankOf_56 rfl (by decide) ?_
          refine o_iinc dX3_rankOf_59 rfl (by decide) ?_
          refine o_goto (tgt := 5) dX3_rankOf_62 (by decide) ?_
          exact o_loc [(0, .ref 159), (1, .int (o_I (s : Int))), (2, .int (o_I (M 0 0))), (3, .int (o_I (o_sm (fun o => o_b (d_ah M o s)) (i + 1)))), (4, .int (o_I (((i + 1) : Nat) : Int)))] (by simp only [o_sm]; rw [o_b1 (Or.inl (by omega))]; rfl) (ih (by omega))
        · skip
          refine o_aload_n dX3_rankOf_34 rfl ?_
          refine o_gf dX3_rankOf_35 fl_X3_15 rfl (by decide) rfl ?_
          refine o_iload dX3_rankOf_38 rfl ?_
          refine o_ialdn (j := i) dX3_rankOf_40 (by decide) rfl (by decide) rfl (by omega) ?_
          refine o_aload_n dX3_rankOf_41 rfl ?_
          refine o_gf dX3_rankOf_42 fl_X3_15 rfl (by decide) rfl ?_
          refine o_iload_n dX3_rankOf_45 rfl ?_
          refine o_ialdn (j := s) dX3_rankOf_46 (by decide) rfl (by decide) rfl (by omega) ?_
          refine o_icmp_ne (tgt := 59) dX3_rankOf_47 (by decide) ⟨by omega, by omega⟩ ⟨by omega, by omega⟩ (fun c_47 => ?_) (fun c_47 => ?_)
          · skip
            refine o_iinc dX3_rankOf_59 rfl (by decide) ?_
            refine o_goto (tgt := 5) dX3_rankOf_62 (by decide) ?_
            exact o_loc [(0, .ref 159), (1, .int (o_I (s : Int))), (2, .int (o_I (M 0 0))), (3, .int (o_I (o_sm (fun o => o_b (d_ah M o s)) (i + 1)))), (4, .int (o_I (((i + 1) : Nat) : Int)))] (by simp only [o_sm]; rw [o_b0 (fun q => by omega), Int.add_zero]; rfl) (ih (by omega))
          · skip
            refine o_iload dX3_rankOf_50 rfl ?_
            refine o_iload_n dX3_rankOf_52 rfl ?_
            refine o_icmp_ge (tgt := 59) dX3_rankOf_53 (by decide) ⟨by omega, by omega⟩ ⟨by omega, by omega⟩ (fun c_53 => ?_) (fun c_53 => ?_)
            · skip
              refine o_iinc dX3_rankOf_59 rfl (by decide) ?_
              refine o_goto (tgt := 5) dX3_rankOf_62 (by decide) ?_
              exact o_loc [(0, .ref 159), (1, .int (o_I (s : Int))), (2, .int (o_I (M 0 0))), (3, .int (o_I (o_sm (fun o => o_b (d_ah M o s)) (i + 1)))), (4, .int (o_I (((i + 1) : Nat) : Int)))] (by simp only [o_sm]; rw [o_b0 (fun q => by omega), Int.add_zero]; rfl) (ih (by omega))
            · skip
              refine o_iinc dX3_rankOf_56 rfl (by decide) ?_
              refine o_iinc dX3_rankOf_59 rfl (by decide) ?_
              refine o_goto (tgt := 5) dX3_rankOf_62 (by decide) ?_
              exact o_loc [(0, .ref 159), (1, .int (o_I (s : Int))), (2, .int (o_I (M 0 0))), (3, .int (o_I (o_sm (fun o => o_b (d_ah M o s)) (i + 1)))), (4, .int (o_I (((i + 1) : Nat) : Int)))] (by simp only [o_sm]; rw [o_b1 (Or.inr ⟨by omega, by omega⟩)]; rfl) (ih (by omega)))
  refine o_iconst dX3_rankOf_0 ?_
  refine o_istore_n dX3_rankOf_1 (by decide) ?_
  refine o_iconst dX3_rankOf_2 ?_
  refine o_istore dX3_rankOf_3 (by decide) ?_
  exact o_loc _ rfl (key 0 (Nat.zero_le _))
set_option maxRecDepth 100000 in
set_option maxHeartbeats 4000000 in
/-- shareByGiving(state, ship) -/
theorem ct_X3_shareByGiving {l : Launch} (hl : l.stackTraces = false) (d : Nat) (g : Nat → Nat → Int) (M : Nat → Nat → Int) (hst : o_st g M) (hwk : o_wk M) (s : Nat) (hs : (s : Int) < M 0 0) : o_Ct l yX3_shareByGiving wX3_shareByGiving (d + 4) o_no [.ref 159, .ref 1, .int (o_I (s : Int))] o_N (o_mem g) 0 0 (o_mt (some (.int (o_I (d_sh M s)))) (fun g' => o_fr o_dc g g')) := by
  refine o_Ct.ofV hl mX3_shareByGiving (by decide +kernel) rfl rfl rfl (Nat.le_of_ble_eq_true rfl) ?_
  obtain ⟨hrs, hrl, hrq, hg3, hg4, hg5, hg6⟩ := id hst
  obtain ⟨hws, hwl, hwq, hwo, hwle, hwrq, hwrd⟩ := id hwk
  have hs0 := hrs.1
  have hl0 := hrl.1
  have hq0 := hrq.1
  have hs1 := o_rs2 hrs
  have hl1 := o_rl6 hrl
  have hq1 := o_rq12 hrq
  obtain ⟨hw1, hw2, hw3⟩ := id hws
  obtain ⟨hw4, hw5, hw6, hw7, hw8⟩ := id hwl
  obtain ⟨hw9, hw10, hw11⟩ := id hwq
  have hu := d_u_R hwk (M 0 0).toNat
  have key := o_lp (fun i => ∀ g1, o_st g1 M → o_dv g1 M i → o_fr o_dc g g1 → o_V l mX3_shareByGiving (d + 4) o_no (o_mt (some (.int (o_I (d_sh M s)))) (fun g' => o_fr o_dc g g')) 20 [(0, .ref 159), (1, .ref 1), (2, .int (o_I (s : Int))), (3, .int (o_I ((i : Nat) : Int)))] [] o_N (o_mem g1) 0 0) (d_u M (M 0 0).toNat).toNat (fun i hi ih g1 h1 hdv f1 => by
    obtain ⟨hrs, hrl, hrq, hg3, hg4, hg5, hg6⟩ := id h1
    obtain ⟨hws, hwl, hwq, hwo, hwle, hwrq, hwrd⟩ := id hwk
    have hs0 := hrs.1
    have hl0 := hrl.1
    have hq0 := hrq.1
    have hs1 := o_rs2 hrs
    have hl1 := o_rl6 hrl
    have hq1 := o_rq12 hrq
    obtain ⟨hw1, hw2, hw3⟩ := id hws
    obtain ⟨hw4, hw5, hw6, hw7, hw8⟩ := id hwl
    obtain ⟨hw9, hw10, hw11⟩ := id hwq
    have hgu := hdv.1
    refine o_iload_n dX3_shareByGiving_20 rfl ?_
    refine o_aload_n dX3_shareByGiving_21 rfl ?_
    refine o_gf dX3_shareByGiving_22 fl_X3_38 rfl (by decide) rfl ?_
    refine o_icmp_ge (tgt := 45) dX3_shareByGiving_25 (by decide) ⟨by omega, by omega⟩ ⟨by omega, by omega⟩ (fun c_25 => ?_) (fun c_25 => ?_)
    · skip
      refine o_aload_n dX3_shareByGiving_45 rfl ?_
      refine o_gf dX3_shareByGiving_46 fl_X3_9 rfl (by decide) rfl ?_
      refine o_iload_n dX3_shareByGiving_49 rfl ?_
      refine o_ialdn (j := s) dX3_shareByGiving_50 (by decide) rfl (by decide) rfl (by omega) ?_
      refine o_ret1 dX3_shareByGiving_51 trivial ?_
      refine o_mtI ?_ f1
      have t := (hdv.2 s hs).1
      have u := d_rk_top hs
      unfold d_sh
      rw [show o_b (d_rk M s < d_u M (M 0 0).toNat) = o_b (d_rk M s < (i : Int)) from o_bc ⟨fun q => by omega, fun q => by omega⟩]
      exact t.symm
    · skip
      refine o_aload_n dX3_shareByGiving_28 rfl ?_
      refine o_aload_n dX3_shareByGiving_29 rfl ?_
      refine o_gf dX3_shareByGiving_30 fl_X3_22 rfl (by decide) rfl ?_
      refine o_gf dX3_shareByGiving_33 fl_X3_42 rfl (by decide) rfl ?_
      rw [hs0]
      refine o_cVm _ (ct_X3_giveOneUnit hl (d + 2) g1 M hwk (i : Int) (by omega) hdv) dX3_shareByGiving_36 ml_X3_45 yw_X3_giveOneUnit rfl (by decide) (by omega) (by decide) rfl rfl rfl (Nat.le_of_ble_eq_true rfl) (fun g_36 q_36 => ?_)
      refine o_iinc dX3_shareByGiving_39 rfl (by decide) ?_
      refine o_goto (tgt := 20) dX3_shareByGiving_42 (by decide) ?_
      refine o_loc [(0, .ref 159), (1, .ref 1), (2, .int (o_I (s : Int))), (3, .int (o_I (((i + 1) : Nat) : Int)))] rfl (ih (by omega) g_36 (o_st_fr h1 q_36.2 (fun a _ _ q => by have q2 : 159 ≤ a ∧ a ≤ 162 := q; omega)) q_36.1 (o_fr_t f1 q_36.2)))
  refine o_aload_n dX3_shareByGiving_0 rfl ?_
  refine o_gf dX3_shareByGiving_1 fl_X3_22 rfl (by decide) rfl ?_
  refine o_iload_n dX3_shareByGiving_4 rfl ?_
  refine o_cV _ (ct_existsS hl (d + 2) g M hrs hws s hs) dX3_shareByGiving_5 ml_X3_28 yw_X9_exists rfl (by decide) (by omega) (by decide) rfl rfl rfl (Nat.le_of_ble_eq_true rfl) ?_
  refine o_if_ne (tgt := 13) dX3_shareByGiving_8 (by decide) ⟨by omega, by omega⟩ (fun _ => ?_) (fun c_8 => absurd c_8 (by decide))
  refine o_aload_n dX3_shareByGiving_13 rfl ?_
  refine o_aload_n dX3_shareByGiving_14 rfl ?_
  refine o_cVm _ (ct_X3_divideRoundedDown hl d g M hst hwk) dX3_shareByGiving_15 ml_X3_34 yw_X3_divideRoundedDown rfl (by decide) (by omega) (by decide) rfl rfl rfl (Nat.le_of_ble_eq_true rfl) (fun g_15 q_15 => ?_)
  refine o_iconst dX3_shareByGiving_18 ?_
  refine o_istore_n dX3_shareByGiving_19 (by decide) ?_
  exact o_loc _ rfl (key 0 (Nat.zero_le _) g_15 (o_st_fr hst q_15.2 (fun a _ _ q => by have q2 : 159 ≤ a ∧ a ≤ 162 := q; omega)) q_15.1 q_15.2)
set_option maxRecDepth 100000 in
set_option maxHeartbeats 4000000 in
/-- shareByRemainderRank(state, ship) -/
theorem ct_X3_shareByRemainderRank {l : Launch} (hl : l.stackTraces = false) (d : Nat) (g : Nat → Nat → Int) (M : Nat → Nat → Int) (hst : o_st g M) (hwk : o_wk M) (s : Nat) (hs : (s : Int) < M 0 0) : o_Ct l yX3_shareByRemainderRank wX3_shareByRemainderRank (d + 4) o_no [.ref 159, .ref 1, .int (o_I (s : Int))] o_N (o_mem g) 0 0 (o_mt (some (.int (o_I (d_sh M s)))) (fun g' => o_fr o_dc g g')) := by
  refine o_Ct.ofV hl mX3_shareByRemainderRank (by decide +kernel) rfl rfl rfl (Nat.le_of_ble_eq_true rfl) ?_
  obtain ⟨hrs, hrl, hrq, hg3, hg4, hg5, hg6⟩ := id hst
  obtain ⟨hws, hwl, hwq, hwo, hwle, hwrq, hwrd⟩ := id hwk
  have hs0 := hrs.1
  have hl0 := hrl.1
  have hq0 := hrq.1
  have hs1 := o_rs2 hrs
  have hl1 := o_rl6 hrl
  have hq1 := o_rq12 hrq
  obtain ⟨hw1, hw2, hw3⟩ := id hws
  obtain ⟨hw4, hw5, hw6, hw7, hw8⟩ := id hwl
  obtain ⟨hw9, hw10, hw11⟩ := id hwq
  have hu := d_u_R hwk (M 0 0).toNat
  refine o_aload_n dX3_shareByRemainderRank_0 rfl ?_
  refine o_gf dX3_shareByRemainderRank_1 fl_X3_22 rfl (by decide) rfl ?_
  refine o_iload_n dX3_shareByRemainderRank_4 rfl ?_
  refine o_cV _ (ct_existsS hl (d + 2) g M hrs hws s hs) dX3_shareByRemainderRank_5 ml_X3_28 yw_X9_exists rfl (by decide) (by omega) (by decide) rfl rfl rfl (Nat.le_of_ble_eq_true rfl) ?_
  refine o_if_ne (tgt := 13) dX3_shareByRemainderRank_8 (by decide) ⟨by omega, by omega⟩ (fun _ => ?_) (fun c_8 => absurd c_8 (by decide))
  refine o_aload_n dX3_shareByRemainderRank_13 rfl ?_
  refine o_aload_n dX3_shareByRemainderRank_14 rfl ?_
  refine o_cVm _ (ct_X3_divideRoundedDown hl d g M hst hwk) dX3_shareByRemainderRank_15 ml_X3_34 yw_X3_divideRoundedDown rfl (by decide) (by omega) (by decide) rfl rfl rfl (Nat.le_of_ble_eq_true rfl) (fun g_15 q_15 => ?_)
  refine o_aload_n dX3_shareByRemainderRank_18 rfl ?_
  refine o_gf dX3_shareByRemainderRank_19 fl_X3_9 rfl (by decide) rfl ?_
  refine o_iload_n dX3_shareByRemainderRank_22 rfl ?_
  refine o_ialdn (j := s) dX3_shareByRemainderRank_23 (by decide) rfl (by decide) rfl (by omega) ?_
  refine o_aload_n dX3_shareByRemainderRank_24 rfl ?_
  refine o_iload_n dX3_shareByRemainderRank_25 rfl ?_
  refine o_aload_n dX3_shareByRemainderRank_26 rfl ?_
  refine o_gf dX3_shareByRemainderRank_27 fl_X3_22 rfl (by decide) rfl ?_
  refine o_gf dX3_shareByRemainderRank_30 fl_X3_42 rfl (by decide) rfl ?_
  rw [show g_15 2 0 = M 0 0 by have t := (o_st_s (o_st_fr hst q_15.2 (fun a _ _ q => by have q2 : 159 ≤ a ∧ a ≤ 162 := q; omega))).1; exact t]
  have hgu := q_15.1.1
  have hq8 := (q_15.1.2 s hs).1
  have hrk := d_rk_top hs
  rw [o_b0 (by omega), Int.add_zero] at hq8
  refine o_cV _ (ct_X3_rankOf hl (d + 2) g_15 M hwk (fun s hs => (q_15.1.2 s hs).2.1) s hs) dX3_shareByRemainderRank_33 ml_X3_49 yw_X3_rankOf rfl (by decide) (by omega) (by decide) rfl rfl rfl (Nat.le_of_ble_eq_true rfl) ?_
  refine o_aload_n dX3_shareByRemainderRank_36 rfl ?_
  refine o_gf dX3_shareByRemainderRank_37 fl_X3_38 rfl (by decide) rfl ?_
  skip
  refine o_icmp_ge (tgt := 47) dX3_shareByRemainderRank_40 (by decide) ⟨by omega, by omega⟩ ⟨by omega, by omega⟩ (fun c_40 => ?_) (fun c_40 => ?_)
  · skip
    refine o_iconst dX3_shareByRemainderRank_47 ?_
    refine o_iadd dX3_shareByRemainderRank_48 ?_
    refine o_ret1 dX3_shareByRemainderRank_49 trivial ?_
    first
      | exact o_mtI (by rw [d_sh, hq8, o_b1 (by omega)]) q_15.2
      | exact o_mtI (by rw [d_sh, hq8, o_b0 (by omega)]) q_15.2
  · skip
    refine o_iconst dX3_shareByRemainderRank_43 ?_
    refine o_goto (tgt := 48) dX3_shareByRemainderRank_44 (by decide) ?_
    refine o_iadd dX3_shareByRemainderRank_48 ?_
    refine o_ret1 dX3_shareByRemainderRank_49 trivial ?_
    first
      | exact o_mtI (by rw [d_sh, hq8, o_b1 (by omega)]) q_15.2
      | exact o_mtI (by rw [d_sh, hq8, o_b0 (by omega)]) q_15.2
