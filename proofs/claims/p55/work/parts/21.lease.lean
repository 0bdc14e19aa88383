theorem ct_canPayN {l : Launch} (hl : l.stackTraces = false) (d : Nat) (g : Nat → Nat → Int) (M : Nat → Nat → Int) (hr : o_rs g 2 M) (hw : o_ws M) (i : Nat) (s : Int) (hi : (i : Int) < M 0 0) (hs : o_R s) : o_Ct l yX9_canPay wX9_canPay (d + 1) o_no [.ref 2, .int (o_I (i : Int)), .int (o_I s)] o_N (o_mem g) 0 0 (o_is (some (.int (o_I (o_b (s ≤ M 1 i))))) o_N (o_mem g)) := by
  have h := ct_X9_canPay hl d g M hr hw i s ⟨by omega, by have := hw.2.1; omega⟩ hs
  rw [show o_b (0 ≤ (i : Int) ∧ (i : Int) < M 0 0 ∧ s ≤ M 1 ((i : Int)).toNat) = o_b (s ≤ M 1 i) from o_bc ⟨fun q => q.2.2, fun q => ⟨by omega, hi, q⟩⟩] at h
  exact h
theorem ct_existsN {l : Launch} (hl : l.stackTraces = false) (d : Nat) (g : Nat → Nat → Int) (M : Nat → Nat → Int) (hr : o_rl g 6 M) (hw : o_wl M) (i : Nat) (hi : (i : Int) < M 0 1) : o_Ct l yX7_exists wX7_exists (d + 1) o_no [.ref 6, .int (o_I (i : Int))] o_N (o_mem g) 0 0 (o_is (some (.int (o_I 1))) o_N (o_mem g)) := by
  have h := ct_X7_exists hl d g M hr hw i ⟨by omega, by have := hw.2.1; omega⟩
  rw [show o_b (0 ≤ (i : Int) ∧ (i : Int) < M 0 1) = 1 from o_b1 ⟨by omega, hi⟩] at h
  exact h
set_option maxRecDepth 100000 in
set_option maxHeartbeats 4000000 in
/-- takeBack(x) -/
theorem ct_X10_takeBack {l : Launch} (hl : l.stackTraces = false) (d : Nat) (g : Nat → Nat → Int) (M : Nat → Nat → Int) (hst : o_st g M) (hwk : o_wk M) (x : Nat) (hx : (x : Int) < M 0 1) : o_Ct l yX10_takeBack wX10_takeBack (d + 2) o_no [.ref 1, .int (o_I (x : Int))] o_N (o_mem g) 0 0 (o_mt (some (.int (o_I (M 6 x - M 0 3)))) (fun g' => o_st g' (m_free M x) ∧ o_fr (o_cs 1) g g')) := by
  refine o_Ct.ofV hl mX10_takeBack (by decide +kernel) rfl rfl rfl (Nat.le_of_ble_eq_true rfl) ?_
  obtain ⟨hrs, hrl, hrq, hg3, hg4, hg5, hg6⟩ := id hst
  obtain ⟨hws, hwl, hwq, hwo, hwle, hwrq, hwrd⟩ := id hwk
  have hs0 := hrs.1
  have hl0 := hrl.1
  have hq0 := hrq.1
  have hs1 := o_rs2 hrs
  have hl1 := o_rl6 hrl
  have hq1 := o_rq12 hrq
  obtain ⟨hw1, hw2, hw3⟩ := id hws
  obtain ⟨hw4, hw5, hw6, hw7, hw8⟩ := id hwl
  obtain ⟨hw9, hw10, hw11⟩ := id hwq
  refine o_aload_n dX10_takeBack_0 rfl ?_
  refine o_gf dX10_takeBack_1 fl_X10_21 rfl (by decide) rfl ?_
  refine o_iload_n dX10_takeBack_4 rfl ?_
  refine o_cV _ (ct_existsN hl d g M hrl hwl x hx) dX10_takeBack_5 ml_X10_44 yw_X7_exists rfl (by decide) (by omega) (by decide) rfl rfl rfl (Nat.le_of_ble_eq_true rfl) ?_
  refine o_if_ne (tgt := 13) dX10_takeBack_8 (by decide) ⟨by omega, by omega⟩ (fun _ => ?_) (fun c_8 => absurd c_8 (by decide))
  refine o_aload_n dX10_takeBack_13 rfl ?_
  refine o_gf dX10_takeBack_14 fl_X10_21 rfl (by decide) rfl ?_
  refine o_gf dX10_takeBack_17 fl_X10_74 rfl (by decide) rfl ?_
  refine o_iload_n dX10_takeBack_20 rfl ?_
  refine o_ialdn (j := x) dX10_takeBack_21 (by decide) rfl (by decide) rfl (by omega) ?_
  refine o_aload_n dX10_takeBack_22 rfl ?_
  refine o_gf dX10_takeBack_23 fl_X10_77 rfl (by decide) rfl ?_
  refine o_isub dX10_takeBack_26 ?_
  refine o_istore_n dX10_takeBack_27 (by decide) ?_
  refine o_aload_n dX10_takeBack_28 rfl ?_
  refine o_gf dX10_takeBack_29 fl_X10_21 rfl (by decide) rfl ?_
  refine o_gf dX10_takeBack_32 fl_X10_71 rfl (by decide) rfl ?_
  refine o_iload_n dX10_takeBack_35 rfl ?_
  refine o_iconst dX10_takeBack_36 ?_
  skip
  refine o_iaEn (j := x) dX10_takeBack_37 rfl (by decide) (by decide) rfl (by omega) (fun _ => rfl) (by decide) (fun g_37 e_37 => ?_)
  have h_37 := o_st_5' hst e_37 (show (-1 : Int) = 0 - 1 by omega)
  refine o_aload_n dX10_takeBack_38 rfl ?_
  refine o_gf dX10_takeBack_39 fl_X10_21 rfl (by decide) rfl ?_
  refine o_gf dX10_takeBack_42 fl_X10_74 rfl (by decide) rfl ?_
  refine o_iload_n dX10_takeBack_45 rfl ?_
  refine o_iconst dX10_takeBack_46 ?_
  refine o_iaEn (j := x) dX10_takeBack_47 rfl (by decide) (by decide) rfl (by omega) (fun _ => rfl) (by decide) (fun g_47 e_47 => ?_)
  have h_47 := o_st_6' h_37 e_47 rfl
  refine o_aload_n dX10_takeBack_48 rfl ?_
  refine o_gf dX10_takeBack_49 fl_X10_28 rfl (by decide) rfl ?_
  refine o_iload_n dX10_takeBack_52 rfl ?_
  refine o_cVm _ (ct_X8_removeFor hl d g_47 (o_e (o_e M 5 x 0) 6 x 0) h_47 hwq hwrd x (by omega) hw5 (m_pos M x) (o_ps_fst _ _)) dX10_takeBack_53 ml_X10_86 yw_X8_removeFor rfl (by decide) (by omega) (by decide) rfl rfl rfl (Nat.le_of_ble_eq_true rfl) (fun g_53 q_53 => ?_)
  refine o_iload_n dX10_takeBack_56 rfl ?_
  refine o_ret1 dX10_takeBack_57 trivial ?_
  exact o_mtI (by have := hl1 x hx; omega) ⟨q_53.1, o_fr_t (o_fr_e' (o_fr_e' o_fr_r e_37 (o_cs1 (by decide) (by decide))) e_47 (o_cs1 (by decide) (by decide))) q_53.2⟩
/-- a request is carried out, or refused -/
def m_renew1 (M : Nat → Nat → Int) (x : Nat) (t : Int) : Nat → Nat → Int := if M 4 x * t ≤ M 1 (M 5 x - 1).toNat then o_e (m_pay M (M 5 x - 1).toNat (M 4 x * t)) 6 x (M 6 x + t) else o_e M 0 4 (M 0 4 + 1)
set_option maxRecDepth 100000 in
set_option maxHeartbeats 4000000 in
/-- renewOrRefuse(x, t) -/
theorem ct_X10_renewOrRefuse {l : Launch} (hl : l.stackTraces = false) (d : Nat) (g : Nat → Nat → Int) (M : Nat → Nat → Int) (hst : o_st g M) (hwk : o_wk M) (x : Nat) (hx : (x : Int) < M 0 1) (h0 : 0 < M 5 x) (t : Int) (ht : 1 ≤ t ∧ t ≤ 24) : o_Ct l yX10_renewOrRefuse wX10_renewOrRefuse (d + 2) o_no [.ref 1, .int (o_I (x : Int)), .int (o_I t)] o_N (o_mem g) 0 0 (o_mt (none) (fun g' => o_st g' (m_renew1 M x t) ∧ o_fr (o_cs 1) g g')) := by
  refine o_Ct.ofV hl mX10_renewOrRefuse (by decide +kernel) rfl rfl rfl (Nat.le_of_ble_eq_true rfl) ?_
  obtain ⟨hrs, hrl, hrq, hg3, hg4, hg5, hg6⟩ := id hst
  obtain ⟨hws, hwl, hwq, hwo, hwle, hwrq, hwrd⟩ := id hwk
  have hs0 := hrs.1
  have hl0 := hrl.1
  have hq0 := hrq.1
  have hs1 := o_rs2 hrs
  have hl1 := o_rl6 hrl
  have hq1 := o_rq12 hrq
  obtain ⟨hw1, hw2, hw3⟩ := id hws
  obtain ⟨hw4, hw5, hw6, hw7, hw8⟩ := id hwl
  obtain ⟨hw9, hw10, hw11⟩ := id hwq
  obtain ⟨s, hs8⟩ : ∃ s : Nat, (s : Int) = M 5 x - 1 := ⟨(M 5 x - 1).toNat, by omega⟩
  have hs9 : (M 5 x - 1).toNat = s := by omega
  have hb8 := hw8 x hx
  have hs : (s : Int) < M 0 0 := by omega
  have hl8 := hl1 x hx
  have hpr := o_pr hb8.1.1 hb8.1.2 ht.1 ht.2
  refine o_aload_n dX10_renewOrRefuse_0 rfl ?_
  refine o_gf dX10_renewOrRefuse_1 fl_X10_21 rfl (by decide) rfl ?_
  refine o_gf dX10_renewOrRefuse_4 fl_X10_71 rfl (by decide) rfl ?_
  refine o_iload_n dX10_renewOrRefuse_7 rfl ?_
  refine o_ialdn (j := x) dX10_renewOrRefuse_8 (by decide) rfl (by decide) rfl (by omega) ?_
  rw [show g 8 x = ((s : Nat) : Int) by omega]
  refine o_istore_n dX10_renewOrRefuse_9 (by decide) ?_
  refine o_aload_n dX10_renewOrRefuse_10 rfl ?_
  refine o_gf dX10_renewOrRefuse_11 fl_X10_21 rfl (by decide) rfl ?_
  refine o_gf dX10_renewOrRefuse_14 fl_X10_63 rfl (by decide) rfl ?_
  refine o_iload_n dX10_renewOrRefuse_17 rfl ?_
  refine o_ialdn (j := x) dX10_renewOrRefuse_18 (by decide) rfl (by decide) rfl (by omega) ?_
  refine o_iload_n dX10_renewOrRefuse_19 rfl ?_
  rw [show g 7 x = M 4 x by omega]
  refine o_imul dX10_renewOrRefuse_20 ?_
  refine o_istore dX10_renewOrRefuse_21 (by decide) ?_
  refine o_aload_n dX10_renewOrRefuse_23 rfl ?_
  refine o_gf dX10_renewOrRefuse_24 fl_X10_12 rfl (by decide) rfl ?_
  refine o_iload_n dX10_renewOrRefuse_27 rfl ?_
  refine o_iload dX10_renewOrRefuse_28 rfl ?_
  refine o_cV _ (ct_canPayN hl d g M hrs hws s _ hs ⟨by omega, by omega⟩) dX10_renewOrRefuse_30 ml_X10_55 yw_X9_canPay rfl (by decide) (by omega) (by decide) rfl rfl rfl (Nat.le_of_ble_eq_true rfl) ?_
  refine o_ifb_eq (tgt := 59) dX10_renewOrRefuse_33 (by decide) (fun c_33 => ?_) (fun c_33 => ?_)
  · skip
    refine o_aload_n dX10_renewOrRefuse_59 rfl ?_
    refine o_dup dX10_renewOrRefuse_60 rfl ?_
    refine o_gf dX10_renewOrRefuse_61 fl_X10_118 rfl (by decide) rfl ?_
    refine o_iconst dX10_renewOrRefuse_64 ?_
    refine o_iadd dX10_renewOrRefuse_65 ?_
    refine o_pmE dX10_renewOrRefuse_66 fp_X10_118 rfl (by decide) (Nat.le_of_ble_eq_true rfl) rfl rfl (fun _ => rfl) (by decide) (fun g_66 e_66 => ?_)
    have h_66 := o_st_0_4' hst e_66 (show g 1 6 + 1 = M 0 4 + 1 by omega)
    refine o_ret0 dX10_renewOrRefuse_69 trivial ?_
    first
      | exact o_mt0 ⟨by rw [m_renew1, hs9, if_pos c_33]; exact h_55, o_fr_t q_40.2 (o_fr_e' o_fr_r e_55 (o_cs1 (by decide) (by decide)))⟩
      | exact o_mt0 ⟨by rw [m_renew1, hs9, if_neg c_33]; exact h_66, o_fr_e' o_fr_r e_66 (o_cs1 (by decide) (by decide))⟩
  · skip
    refine o_aload_n dX10_renewOrRefuse_36 rfl ?_
    refine o_iload_n dX10_renewOrRefuse_37 rfl ?_
    refine o_iload dX10_renewOrRefuse_38 rfl ?_
    refine o_cVm _ (ct_X10_payOffice hl d g M hst hwk s hs (M 4 x * t)) dX10_renewOrRefuse_40 ml_X10_67 yw_X10_payOffice rfl (by decide) (by omega) (by decide) rfl rfl rfl (Nat.le_of_ble_eq_true rfl) (fun g_40 q_40 => ?_)
    refine o_aload_n dX10_renewOrRefuse_43 rfl ?_
    refine o_gf dX10_renewOrRefuse_44 fl_X10_21 rfl (by decide) rfl ?_
    refine o_gf dX10_renewOrRefuse_47 fl_X10_74 rfl (by decide) rfl ?_
    refine o_iload_n dX10_renewOrRefuse_50 rfl ?_
    refine o_dup2 dX10_renewOrRefuse_51 rfl rfl ?_
    refine o_ialdn (j := x) dX10_renewOrRefuse_52 (by decide) rfl (by decide) rfl (by omega) ?_
    refine o_iload_n dX10_renewOrRefuse_53 rfl ?_
    refine o_iadd dX10_renewOrRefuse_54 ?_
    refine o_iaEn (j := x) dX10_renewOrRefuse_55 rfl (by decide) (by decide) rfl (by omega) (fun _ => rfl) (by decide) (fun g_55 e_55 => ?_)
    have h_55 := o_st_6' q_40.1 e_55 (show g_40 9 x + t = M 6 x + t by have t1 := ((o_st_l q_40.1).2 x hx).2.2.1; have t2 : g_40 9 x = M 6 x := t1; omega)
    refine o_goto (tgt := 69) dX10_renewOrRefuse_56 (by decide) ?_
    refine o_ret0 dX10_renewOrRefuse_69 trivial ?_
    first
      | exact o_mt0 ⟨by rw [m_renew1, hs9, if_pos c_33]; exact h_55, o_fr_t q_40.2 (o_fr_e' o_fr_r e_55 (o_cs1 (by decide) (by decide)))⟩
      | exact o_mt0 ⟨by rw [m_renew1, hs9, if_neg c_33]; exact h_66, o_fr_e' o_fr_r e_66 (o_cs1 (by decide) (by decide))⟩
set_option maxRecDepth 100000 in
set_option maxHeartbeats 4000000 in
/-- leaseOut(s, x, t) -/
theorem ct_X10_leaseOut {l : Launch} (hl : l.stackTraces = false) (d : Nat) (g : Nat → Nat → Int) (M : Nat → Nat → Int) (hst : o_st g M) (hwf : o_wf M) (s x : Nat) (hs : (s : Int) < M 0 0) (hx : (x : Int) < M 0 1) (t : Int) (ht : 1 ≤ t ∧ t ≤ 24) : o_Ct l yX10_leaseOut wX10_leaseOut (d + 3) o_no [.ref 1, .int (o_I (s : Int)), .int (o_I (x : Int)), .int (o_I t)] o_N (o_mem g) 0 0 (o_mt (some (.int (o_I (M 0 3 + t)))) (fun g' => o_st g' (m_lease M s x t) ∧ o_fr (o_cs 1) g g')) := by
  refine o_Ct.ofV hl mX10_leaseOut (by decide +kernel) rfl rfl rfl (Nat.le_of_ble_eq_true rfl) ?_
  obtain ⟨hrs, hrl, hrq, hg3, hg4, hg5, hg6⟩ := id hst
  obtain ⟨⟨hws, hwl, hwq, hwo, hwle, hwrq, hwrd⟩, hwh, hwc, hwe⟩ := id hwf
  have hs0 := hrs.1
  have hl0 := hrl.1
  have hq0 := hrq.1
  have hs1 := o_rs2 hrs
  have hl1 := o_rl6 hrl
  have hq1 := o_rq12 hrq
  obtain ⟨hw1, hw2, hw3⟩ := id hws
  obtain ⟨hw4, hw5, hw6, hw7, hw8⟩ := id hwl
  obtain ⟨hw9, hw10, hw11⟩ := id hwq
  refine o_aload_n dX10_leaseOut_0 rfl ?_
  refine o_gf dX10_leaseOut_1 fl_X10_21 rfl (by decide) rfl ?_
  refine o_iload_n dX10_leaseOut_4 rfl ?_
  refine o_cV _ (ct_existsN hl (d + 1) g M hrl hwl x hx) dX10_leaseOut_5 ml_X10_44 yw_X7_exists rfl (by decide) (by omega) (by decide) rfl rfl rfl (Nat.le_of_ble_eq_true rfl) ?_
  refine o_if_ne (tgt := 13) dX10_leaseOut_8 (by decide) ⟨by omega, by omega⟩ (fun _ => ?_) (fun c_8 => absurd c_8 (by decide))
  refine o_aload_n dX10_leaseOut_13 rfl ?_
  refine o_iload_n dX10_leaseOut_14 rfl ?_
  refine o_aload_n dX10_leaseOut_15 rfl ?_
  refine o_iload_n dX10_leaseOut_16 rfl ?_
  refine o_iload_n dX10_leaseOut_17 rfl ?_
  refine o_cV _ (ct_X10_price hl d g M hst hwf (x : Int) ⟨by omega, by omega⟩ t ⟨by omega, by omega⟩) dX10_leaseOut_18 ml_X10_51 yw_X10_price rfl (by decide) (by omega) (by decide) rfl rfl rfl (Nat.le_of_ble_eq_true rfl) ?_
  rw [if_pos ⟨by omega, hx⟩]
  simp only [Int.toNat_natCast]
  refine o_cVm _ (ct_X10_payOffice hl (d + 1) g M hst hwf.1 s hs (M 4 x * t)) dX10_leaseOut_21 ml_X10_67 yw_X10_payOffice rfl (by decide) (by omega) (by decide) rfl rfl rfl (Nat.le_of_ble_eq_true rfl) (fun g_21 q_21 => ?_)
  refine o_aload_n dX10_leaseOut_24 rfl ?_
  refine o_gf dX10_leaseOut_25 fl_X10_21 rfl (by decide) rfl ?_
  refine o_gf dX10_leaseOut_28 fl_X10_71 rfl (by decide) rfl ?_
  refine o_iload_n dX10_leaseOut_31 rfl ?_
  refine o_iload_n dX10_leaseOut_32 rfl ?_
  refine o_iaEn (j := x) dX10_leaseOut_33 rfl (by decide) (by decide) rfl (by omega) (fun _ => rfl) (by decide) (fun g_33 e_33 => ?_)
  have h_33 := o_st_5' q_21.1 e_33 (show (s : Int) = (s + 1) - 1 by omega)
  refine o_aload_n dX10_leaseOut_34 rfl ?_
  refine o_gf dX10_leaseOut_35 fl_X10_21 rfl (by decide) rfl ?_
  refine o_gf dX10_leaseOut_38 fl_X10_74 rfl (by decide) rfl ?_
  refine o_iload_n dX10_leaseOut_41 rfl ?_
  refine o_aload_n dX10_leaseOut_42 rfl ?_
  refine o_gf dX10_leaseOut_43 fl_X10_77 rfl (by decide) rfl ?_
  refine o_iload_n dX10_leaseOut_46 rfl ?_
  refine o_iadd dX10_leaseOut_47 ?_
  refine o_iaEn (j := x) dX10_leaseOut_48 rfl (by decide) (by decide) rfl (by omega) (fun _ => rfl) (by decide) (fun g_48 e_48 => ?_)
  have h_48 := o_st_6' h_33 e_48 (show g_33 1 4 + t = M 0 3 + t by have t1 := o_st_hour h_33; have t2 : g_33 1 4 = M 0 3 := t1; omega)
  have v_48 : g_48 9 x = M 0 3 + t := by rw [e_48, o_e_s]; have t1 := o_st_hour h_33; have t2 : g_33 1 4 = M 0 3 := t1; omega
  refine o_aload_n dX10_leaseOut_49 rfl ?_
  refine o_gf dX10_leaseOut_50 fl_X10_21 rfl (by decide) rfl ?_
  refine o_gf dX10_leaseOut_53 fl_X10_74 rfl (by decide) rfl ?_
  refine o_iload_n dX10_leaseOut_56 rfl ?_
  refine o_ialdn (j := x) dX10_leaseOut_57 (by decide) rfl (by decide) rfl (by omega) ?_
  refine o_ret1 dX10_leaseOut_58 trivial ?_
  exact o_mtI v_48.symm ⟨h_48, o_fr_t q_21.2 (o_fr_e' (o_fr_e' o_fr_r e_33 (o_cs1 (by decide) (by decide))) e_48 (o_cs1 (by decide) (by decide)))⟩
