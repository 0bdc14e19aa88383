set_option maxRecDepth 100000 in
set_option maxHeartbeats 4000000 in
/-- anyBrightOf(s) -/
theorem ct_X7_anyBrightOf {l : Launch} (hl : l.stackTraces = false) (d : Nat) (g : Nat → Nat → Int) (M : Nat → Nat → Int) (hr : o_rl g 6 M) (hw : o_wl M) (s : Int) (hs : o_R s) : o_Ct l yX7_anyBrightOf wX7_anyBrightOf (d + 2) o_no [.ref 6, .int (o_I s)] o_N (o_mem g) 0 0 (o_is (some (.int (o_I (o_b (0 < o_sm (fun j => o_b (M 5 j = s + 1 ∧ M 8 j = 1)) (M 0 1).toNat))))) o_N (o_mem g)) := by
  refine o_Ct.ofV hl mX7_anyBrightOf (by decide +kernel) rfl rfl rfl (Nat.le_of_ble_eq_true rfl) ?_
  obtain ⟨N, hN, hN8⟩ := o_N1 hw
  have h0 := hr.1
  have h8 := o_rl6 hr
  obtain ⟨hw1, hw2, hw3, hw4, hwb⟩ := id hw
  have key := o_lp (fun i => o_sm (fun j => o_b (M 5 j = s + 1 ∧ M 8 j = 1)) i = 0 → o_V l mX7_anyBrightOf (d + 2) o_no (o_is (some (.int (o_I (o_b (0 < o_sm (fun j => o_b (M 5 j = s + 1 ∧ M 8 j = 1)) (M 0 1).toNat))))) o_N (o_mem g)) 2 [(0, .ref 6), (1, .int (o_I s)), (2, .int (o_I ((i : Nat) : Int)))] [] o_N (o_mem g) 0 0) N (fun i hi ih h0 => by
    have hg0 := hr.1
    refine o_iload_n dX7_anyBrightOf_2 rfl ?_
    refine o_aload_n dX7_anyBrightOf_3 rfl ?_
    refine o_gf dX7_anyBrightOf_4 fl_X7_28 rfl (by decide) rfl ?_
    refine o_icmp_ge (tgt := 36) dX7_anyBrightOf_7 (by decide) ⟨by omega, by omega⟩ ⟨by omega, by omega⟩ (fun c_7 => ?_) (fun c_7 => ?_)
    · skip
      refine o_iconst dX7_anyBrightOf_36 ?_
      refine o_ret1 dX7_anyBrightOf_37 (by first | exact o_rb0 | exact o_rb1 | exact o_bn _) ?_
      rw [show N = (M 0 1).toNat by omega] at *
      rw [show i = (M 0 1).toNat by omega] at h0
      rw [o_b0 (by omega)]
      exact ⟨rfl, rfl, rfl⟩
    · skip
      refine o_aload_n dX7_anyBrightOf_10 rfl ?_
      refine o_iload_n dX7_anyBrightOf_11 rfl ?_
      refine o_iload_n dX7_anyBrightOf_12 rfl ?_
      refine o_cV _ (ct_isTakenByN hl d g M hr hw i (by omega) s hs) dX7_anyBrightOf_13 ml_X7_36 yw_X7_isTakenBy rfl (by decide) (by omega) (by decide) rfl rfl rfl (Nat.le_of_ble_eq_true rfl) ?_
      refine o_ifb_eq (tgt := 30) dX7_anyBrightOf_16 (by decide) (fun c_16 => ?_) (fun c_16 => ?_)
      · skip
        refine o_iinc dX7_anyBrightOf_30 rfl (by decide) ?_
        refine o_goto (tgt := 2) dX7_anyBrightOf_33 (by decide) ?_
        exact o_loc [(0, .ref 6), (1, .int (o_I s)), (2, .int (o_I (((i + 1) : Nat) : Int)))] rfl (ih (by omega) (by show o_sm (fun j => o_b (M 5 j = s + 1 ∧ M 8 j = 1)) i + o_b _ = 0; rw [h0, o_b0 (fun q => c_16 q.1)]; rfl))
      · skip
        refine o_aload_n dX7_anyBrightOf_19 rfl ?_
        refine o_gf dX7_anyBrightOf_20 fl_X7_24 rfl (by decide) rfl ?_
        refine o_iload_n dX7_anyBrightOf_23 rfl ?_
        refine o_zaldn (j := i) dX7_anyBrightOf_24 (by decide) rfl (by decide) rfl (by omega) ?_
        rw [(h8 i (by omega)).2.2.2.2]
        have h85 := (hwb i (by omega)).2.2.2.2
        refine o_if_eq (tgt := 30) dX7_anyBrightOf_25 (by decide) ⟨by omega, by omega⟩ (fun c_25 => ?_) (fun c_25 => ?_)
        · skip
          refine o_iinc dX7_anyBrightOf_30 rfl (by decide) ?_
          refine o_goto (tgt := 2) dX7_anyBrightOf_33 (by decide) ?_
          exact o_loc [(0, .ref 6), (1, .int (o_I s)), (2, .int (o_I (((i + 1) : Nat) : Int)))] rfl (ih (by omega) (by show o_sm (fun j => o_b (M 5 j = s + 1 ∧ M 8 j = 1)) i + o_b _ = 0; rw [h0, o_b0 (fun q => by omega)]; rfl))
        · skip
          refine o_iconst dX7_anyBrightOf_28 ?_
          refine o_ret1 dX7_anyBrightOf_29 (by first | exact o_rb0 | exact o_rb1 | exact o_bn _) ?_
          rw [o_b1 (o_sm_pos (f := (fun j => o_b (M 5 j = s + 1 ∧ M 8 j = 1))) (fun i => o_b_nn _) (i := i) (by omega) (by show 0 < o_b _; rw [o_b1 ⟨c_16, by omega⟩]; decide))]
          exact ⟨rfl, rfl, rfl⟩)
  refine o_iconst dX7_anyBrightOf_0 ?_
  refine o_istore_n dX7_anyBrightOf_1 (by decide) ?_
  exact o_loc _ rfl (key 0 (Nat.zero_le _) rfl)
set_option maxRecDepth 100000 in
set_option maxHeartbeats 4000000 in
/-- burn() -/
theorem ct_X10_burn {l : Launch} (hl : l.stackTraces = false) (d : Nat) (g : Nat → Nat → Int) (M : Nat → Nat → Int) (hst : o_st g M) (hwk : o_wk M) : o_Ct l yX10_burn wX10_burn (d + 2) o_no [.ref 1] o_N (o_mem g) 0 0 (o_mt (none) (fun g' => o_st g' (m_burns M) ∧ o_fr (o_cs 1) g g')) := by
  refine o_Ct.ofV hl mX10_burn (by decide +kernel) rfl rfl rfl (Nat.le_of_ble_eq_true rfl) ?_
  obtain ⟨hrs, hrl, hrq, hg3, hg4, hg5, hg6⟩ := id hst
  obtain ⟨hws, hwl, hwq, hwo, hwle, hwrq, hwrd⟩ := id hwk
  have hs0 := hrs.1
  have hl0 := hrl.1
  have hq0 := hrq.1
  have hs1 := o_rs2 hrs
  have hl1 := o_rl6 hrl
  have hq1 := o_rq12 hrq
  obtain ⟨hw1, hw2, hw3⟩ := id hws
  obtain ⟨hw4, hw5, hw6, hw7, hw8⟩ := id hwl
  obtain ⟨hw9, hw10, hw11⟩ := id hwq
  have key := o_lp (fun i => ∀ g1, o_st g1 (o_fd m_burn1 M i) → o_fr (o_cs 1) g g1 → o_V l mX10_burn (d + 2) o_no (o_mt (none) (fun g' => o_st g' (m_burns M) ∧ o_fr (o_cs 1) g g')) 2 [(0, .ref 1), (1, .int (o_I ((i : Nat) : Int)))] [] o_N (o_mem g1) 0 0) (M 0 1).toNat (fun i hi ih g1 h1 f1 => by
    have e9 : o_fd m_burn1 M (i + 1) = m_burn1 (o_fd m_burn1 M i) i := rfl
    have ki := ke_burns hwk i hi
    obtain ⟨Mi, hMi⟩ : ∃ Mi, Mi = o_fd m_burn1 M i := ⟨_, rfl⟩
    rw [← hMi] at h1 ki e9
    obtain ⟨hrs, hrl, hrq, hg3, hg4, hg5, hg6⟩ := id h1
    obtain ⟨hws, hwl, hwq, hwo, hwle, hwrq, hwrd⟩ := id ki.1
    have hs0 := hrs.1
    have hl0 := hrl.1
    have hq0 := hrq.1
    have hs1 := o_rs2 hrs
    have hl1 := o_rl6 hrl
    have hq1 := o_rq12 hrq
    obtain ⟨hw1, hw2, hw3⟩ := id hws
    obtain ⟨hw4, hw5, hw6, hw7, hw8⟩ := id hwl
    obtain ⟨hw9, hw10, hw11⟩ := id hwq
    have hc9 := ki.2.2.1
    refine o_iload_n dX10_burn_2 rfl ?_
    refine o_aload_n dX10_burn_3 rfl ?_
    refine o_gf dX10_burn_4 fl_X10_21 rfl (by decide) rfl ?_
    refine o_gf dX10_burn_7 fl_X10_36 rfl (by decide) rfl ?_
    refine o_icmp_ge (tgt := 103) dX10_burn_10 (by decide) ⟨by omega, by omega⟩ ⟨by omega, by omega⟩ (fun c_10 => ?_) (fun c_10 => ?_)
    · skip
      refine o_ret0 dX10_burn_103 trivial ?_
      exact o_mt0 ⟨by have e : i = (M 0 1).toNat := by omega
                      rw [hMi, e] at h1; exact h1, f1⟩
    · skip
      refine o_aload_n dX10_burn_13 rfl ?_
      refine o_gf dX10_burn_14 fl_X10_21 rfl (by decide) rfl ?_
      refine o_gf dX10_burn_17 fl_X10_121 rfl (by decide) rfl ?_
      refine o_iload_n dX10_burn_20 rfl ?_
      refine o_aload_n dX10_burn_21 rfl ?_
      refine o_gf dX10_burn_22 fl_X10_21 rfl (by decide) rfl ?_
      refine o_iload_n dX10_burn_25 rfl ?_
      have hi9 : (i : Int) < Mi 0 1 := by omega
      have hb8 := hw8 i hi9
      have hl8 := hl1 i hi9
      refine o_cV _ (ct_isTakenN hl d g1 Mi hrl hwl i hi9) dX10_burn_26 ml_X10_48 yw_X7_isTaken rfl (by decide) (by omega) (by decide) rfl rfl rfl (Nat.le_of_ble_eq_true rfl) ?_
      refine o_ifb_eq (tgt := 52) dX10_burn_29 (by decide) (fun c_29 => ?_) (fun c_29 => ?_)
      · skip
        refine o_iconst dX10_burn_52 ?_
        refine o_zaEn (j := i) dX10_burn_53 rfl (by decide) (by decide) rfl (by omega) (by first | exact Or.inl rfl | exact Or.inr rfl) (fun _ => rfl) (by decide) (fun g_53 e_53 => ?_)
        have h_53 := o_st_8' h1 e_53 rfl
        have v_53 := congrFun (congrFun e_53 11) i
        rw [o_e_s] at v_53
        refine o_aload_n dX10_burn_54 rfl ?_
        refine o_gf dX10_burn_55 fl_X10_21 rfl (by decide) rfl ?_
        refine o_gf dX10_burn_58 fl_X10_121 rfl (by decide) rfl ?_
        refine o_iload_n dX10_burn_61 rfl ?_
        refine o_zaldn (j := i) dX10_burn_62 (by decide) rfl (by decide) rfl (by omega) ?_
        rw [v_53]
        refine o_if_eq (tgt := 97) dX10_burn_63 (by decide) ⟨by omega, by omega⟩ (fun _ => ?_) (fun c => absurd rfl c)
        refine o_iinc dX10_burn_97 rfl (by decide) ?_
        refine o_goto (tgt := 2) dX10_burn_100 (by decide) ?_
        refine o_loc [(0, .ref 1), (1, .int (o_I (((i + 1) : Nat) : Int)))] rfl (ih (by omega) g_53 (by rw [e9, m_burn1, if_neg (by omega)]; exact h_53) (o_fr_e' f1 e_53 (o_cs1 (by decide) (by decide))))
      · skip
        refine o_aload_n dX10_burn_32 rfl ?_
        refine o_gf dX10_burn_33 fl_X10_21 rfl (by decide) rfl ?_
        refine o_gf dX10_burn_36 fl_X10_63 rfl (by decide) rfl ?_
        refine o_iload_n dX10_burn_39 rfl ?_
        refine o_ialdn (j := i) dX10_burn_40 (by decide) rfl (by decide) rfl (by omega) ?_
        refine o_aload_n dX10_burn_41 rfl ?_
        refine o_gf dX10_burn_42 fl_X10_37 rfl (by decide) rfl ?_
        refine o_icmp_gt (tgt := 52) dX10_burn_45 (by decide) ⟨by omega, by omega⟩ ⟨by omega, by omega⟩ (fun c_45 => ?_) (fun c_45 => ?_)
        · skip
          refine o_iconst dX10_burn_52 ?_
          refine o_zaEn (j := i) dX10_burn_53 rfl (by decide) (by decide) rfl (by omega) (by first | exact Or.inl rfl | exact Or.inr rfl) (fun _ => rfl) (by decide) (fun g_53 e_53 => ?_)
          have h_53 := o_st_8' h1 e_53 rfl
          have v_53 := congrFun (congrFun e_53 11) i
          rw [o_e_s] at v_53
          refine o_aload_n dX10_burn_54 rfl ?_
          refine o_gf dX10_burn_55 fl_X10_21 rfl (by decide) rfl ?_
          refine o_gf dX10_burn_58 fl_X10_121 rfl (by decide) rfl ?_
          refine o_iload_n dX10_burn_61 rfl ?_
          refine o_zaldn (j := i) dX10_burn_62 (by decide) rfl (by decide) rfl (by omega) ?_
          rw [v_53]
          refine o_if_eq (tgt := 97) dX10_burn_63 (by decide) ⟨by omega, by omega⟩ (fun _ => ?_) (fun c => absurd rfl c)
          refine o_iinc dX10_burn_97 rfl (by decide) ?_
          refine o_goto (tgt := 2) dX10_burn_100 (by decide) ?_
          refine o_loc [(0, .ref 1), (1, .int (o_I (((i + 1) : Nat) : Int)))] rfl (ih (by omega) g_53 (by rw [e9, m_burn1, if_neg (by omega)]; exact h_53) (o_fr_e' f1 e_53 (o_cs1 (by decide) (by decide))))
        · skip
          refine o_iconst dX10_burn_48 ?_
          refine o_goto (tgt := 53) dX10_burn_49 (by decide) ?_
          refine o_zaEn (j := i) dX10_burn_53 rfl (by decide) (by decide) rfl (by omega) (by first | exact Or.inl rfl | exact Or.inr rfl) (fun _ => rfl) (by decide) (fun g_53 e_53 => ?_)
          have h_53 := o_st_8' h1 e_53 rfl
          have v_53 := congrFun (congrFun e_53 11) i
          rw [o_e_s] at v_53
          refine o_aload_n dX10_burn_54 rfl ?_
          refine o_gf dX10_burn_55 fl_X10_21 rfl (by decide) rfl ?_
          refine o_gf dX10_burn_58 fl_X10_121 rfl (by decide) rfl ?_
          refine o_iload_n dX10_burn_61 rfl ?_
          refine o_zaldn (j := i) dX10_burn_62 (by decide) rfl (by decide) rfl (by omega) ?_
          rw [v_53]
          refine o_if_eq (tgt := 97) dX10_burn_63 (by decide) ⟨by omega, by omega⟩ (fun c => absurd c (by decide)) (fun _ => ?_)
          refine o_aload_n dX10_burn_66 rfl ?_
          refine o_dup dX10_burn_67 rfl ?_
          refine o_gf dX10_burn_68 fl_X10_37 rfl (by decide) rfl ?_
          refine o_aload_n dX10_burn_71 rfl ?_
          refine o_gf dX10_burn_72 fl_X10_21 rfl (by decide) rfl ?_
          refine o_gf dX10_burn_75 fl_X10_63 rfl (by decide) rfl ?_
          refine o_iload_n dX10_burn_78 rfl ?_
          refine o_ialdn (j := i) dX10_burn_79 (by decide) rfl (by decide) rfl (by omega) ?_
          refine o_isub dX10_burn_80 ?_
          refine o_pmE dX10_burn_81 fp_X10_37 rfl (by decide) (Nat.le_of_ble_eq_true rfl) rfl rfl (fun _ => rfl) (by decide) (fun g_81 e_81 => ?_)
          have h_81 := o_st_0_2' h_53 e_81 (show g_53 1 3 - g_53 7 i = Mi 0 2 - Mi 4 i by have t1 := o_st_oil h_53; have t2 : g_53 1 3 = Mi 0 2 := t1; have t3 := ((o_st_l h_53).2 i hi9).1; have t4 : g_53 7 i = Mi 4 i := t3; omega)
          refine o_aload_n dX10_burn_84 rfl ?_
          refine o_gf dX10_burn_85 fl_X10_21 rfl (by decide) rfl ?_
          refine o_gf dX10_burn_88 fl_X10_125 rfl (by decide) rfl ?_
          refine o_iload_n dX10_burn_91 rfl ?_
          refine o_dup2 dX10_burn_92 rfl rfl ?_
          refine o_ialdn (j := i) dX10_burn_93 (by decide) rfl (by decide) rfl (by omega) ?_
          refine o_iconst dX10_burn_94 ?_
          refine o_iadd dX10_burn_95 ?_
          refine o_iaEn (j := i) dX10_burn_96 rfl (by decide) (by decide) rfl (by omega) (fun _ => rfl) (by decide) (fun g_96 e_96 => ?_)
          have h_96 := o_st_7' h_81 e_96 (show g_81 10 i + 1 = Mi 7 i + 1 by have t3 := ((o_st_l h_81).2 i hi9).2.2.2.1; have t4 : g_81 10 i = Mi 7 i := t3; omega)
          refine o_iinc dX10_burn_97 rfl (by decide) ?_
          refine o_goto (tgt := 2) dX10_burn_100 (by decide) ?_
          refine o_loc [(0, .ref 1), (1, .int (o_I (((i + 1) : Nat) : Int)))] rfl (ih (by omega) g_96 (by rw [e9, m_burn1, if_pos (by omega)]; exact h_96) (o_fr_e' (o_fr_e' (o_fr_e' f1 e_53 (o_cs1 (by decide) (by decide))) e_81 (o_cs1 (by decide) (by decide))) e_96 (o_cs1 (by decide) (by decide)))))
  refine o_iconst dX10_burn_0 ?_
  refine o_istore_n dX10_burn_1 (by decide) ?_
  exact o_loc _ rfl (key 0 (Nat.zero_le _) g hst o_fr_r)
theorem o_minS : Cond.static Lib.Math.min.name ∈ o_gW ∧ Cond.initialized "java/lang/Math" ∈ o_gW ∧ Cond.code Lib.Math.min.name Lib.Math.min.code 2 (some .int) ∈ o_gW := by decide +kernel
theorem o_maxS : Cond.static Lib.Math.max.name ∈ o_gW ∧ Cond.initialized "java/lang/Math" ∈ o_gW ∧ Cond.code Lib.Math.max.name Lib.Math.max.code 2 (some .int) ∈ o_gW := by decide +kernel
theorem o_sm_b (p : Nat → Prop) [DecidablePred p] (n : Nat) : 0 ≤ o_sm (fun j => o_b (p j)) n ∧ o_sm (fun j => o_b (p j)) n ≤ n := by
  have := o_sm_le (f := fun j => o_b (p j)) (n := n) (m := 1) (fun i _ => by have := o_b01 (p i); show 0 ≤ o_b (p i) ∧ o_b (p i) ≤ 1; omega)
  omega
set_option maxRecDepth 100000 in
set_option maxHeartbeats 4000000 in
/-- processRequests() -/
theorem ct_X10_processRequests {l : Launch} (hl : l.stackTraces = false) (d : Nat) (g : Nat → Nat → Int) (M : Nat → Nat → Int) (hst : o_st g M) (hwk : o_wk M) : o_Ct l yX10_processRequests wX10_processRequests (d + 3) o_no [.ref 1] o_N (o_mem g) 0 0 (o_mt (none) (fun g' => o_st g' (m_renews M) ∧ o_fr (o_cs 1) g g')) := by
  refine o_Ct.ofV hl mX10_processRequests (by decide +kernel) rfl rfl rfl (Nat.le_of_ble_eq_true rfl) ?_
  obtain ⟨hrs, hrl, hrq, hg3, hg4, hg5, hg6⟩ := id hst
  obtain ⟨hws, hwl, hwq, hwo, hwle, hwrq, hwrd⟩ := id hwk
  have hs0 := hrs.1
  have hl0 := hrl.1
  have hq0 := hrq.1
  have hs1 := o_rs2 hrs
  have hl1 := o_rl6 hrl
  have hq1 := o_rq12 hrq
  obtain ⟨hw1, hw2, hw3⟩ := id hws
  obtain ⟨hw4, hw5, hw6, hw7, hw8⟩ := id hwl
  obtain ⟨hw9, hw10, hw11⟩ := id hwq
  have key := o_lp (fun i => ∀ g1, o_st g1 (o_fd m_renew1' M i) → o_fr (o_cs 1) g g1 → o_V l mX10_processRequests (d + 3) o_no (o_mt (none) (fun g' => o_st g' (m_renews M) ∧ o_fr (o_cs 1) g g')) 2 [(0, .ref 1), (1, .int (o_I ((i : Nat) : Int)))] [] o_N (o_mem g1) 0 0) (M 0 6).toNat (fun i hi ih g1 h1 f1 => by
    have e9 : o_fd m_renew1' M (i + 1) = m_renew1' (o_fd m_renew1' M i) i := rfl
    have ki := (ke_renews hwk i hi).1
    obtain ⟨Mi, hMi⟩ : ∃ Mi, Mi = o_fd m_renew1' M i := ⟨_, rfl⟩
    rw [← hMi] at h1 ki e9
    have hc9 : Mi 0 6 = M 0 6 := by rw [hMi]; exact (ke_renews hwk i hi).2.1
    obtain ⟨hrs, hrl, hrq, hg3, hg4, hg5, hg6⟩ := id h1
    obtain ⟨hws, hwl, hwq, hwo, hwle, hwrq, hwrd⟩ := id ki.1
    have hs0 := hrs.1
    have hl0 := hrl.1
    have hq0 := hrq.1
    have hs1 := o_rs2 hrs
    have hl1 := o_rl6 hrl
    have hq1 := o_rq12 hrq
    obtain ⟨hw1, hw2, hw3⟩ := id hws
    obtain ⟨hw4, hw5, hw6, hw7, hw8⟩ := id hwl
    obtain ⟨hw9, hw10, hw11⟩ := id hwq
    refine o_iload_n dX10_processRequests_2 rfl ?_
    refine o_aload_n dX10_processRequests_3 rfl ?_
    refine o_gf dX10_processRequests_4 fl_X10_28 rfl (by decide) rfl ?_
    refine o_gf dX10_processRequests_7 fl_X10_106 rfl (by decide) rfl ?_
    refine o_icmp_ge (tgt := 56) dX10_processRequests_10 (by decide) ⟨by omega, by omega⟩ ⟨by omega, by omega⟩ (fun c_10 => ?_) (fun c_10 => ?_)
    · skip
      refine o_aload_n dX10_processRequests_56 rfl ?_
      refine o_gf dX10_processRequests_57 fl_X10_28 rfl (by decide) rfl ?_
      refine o_cVm _ (ct_X8_clear hl (d + 1) g1 Mi h1) dX10_processRequests_60 ml_X10_115 yw_X8_clear rfl (by decide) (by omega) (by decide) rfl rfl rfl (Nat.le_of_ble_eq_true rfl) (fun g_60 q_60 => ?_)
      refine o_ret0 dX10_processRequests_63 trivial ?_
      exact o_mt0 ⟨by have e : i = (M 0 6).toNat := by omega
                      have t := q_60.1
                      rw [hMi, e] at t; exact t, o_fr_t f1 q_60.2⟩
    · skip
      have hi9 : (i : Int) < Mi 0 6 := by omega
      have hq9 := hw11 i hi9
      have hlsd := hwrq i hi9
      obtain ⟨x, hx⟩ : ∃ x : Nat, (x : Int) = Mi 9 i := ⟨(Mi 9 i).toNat, by omega⟩
      have hx9 : (Mi 9 i).toNat = x := by omega
      rw [hx9] at hlsd
      have hq1i := hq1 i hi9
      refine o_aload_n dX10_processRequests_13 rfl ?_
      refine o_gf dX10_processRequests_14 fl_X10_28 rfl (by decide) rfl ?_
      refine o_gf dX10_processRequests_17 fl_X10_107 rfl (by decide) rfl ?_
      refine o_iload_n dX10_processRequests_20 rfl ?_
      refine o_ialdn (j := i) dX10_processRequests_21 (by decide) rfl (by decide) rfl (by omega) ?_
      rw [show g1 13 i = ((x : Nat) : Int) by omega]
      refine o_istore_n dX10_processRequests_22 (by decide) ?_
      refine o_aload_n dX10_processRequests_23 rfl ?_
      refine o_gf dX10_processRequests_24 fl_X10_28 rfl (by decide) rfl ?_
      refine o_gf dX10_processRequests_27 fl_X10_109 rfl (by decide) rfl ?_
      refine o_iload_n dX10_processRequests_30 rfl ?_
      refine o_ialdn (j := i) dX10_processRequests_31 (by decide) rfl (by decide) rfl (by omega) ?_
      rw [show g1 14 i = Mi 10 i by omega]
      refine o_istore_n dX10_processRequests_32 (by decide) ?_
      refine o_aload_n dX10_processRequests_33 rfl ?_
      refine o_gf dX10_processRequests_34 fl_X10_21 rfl (by decide) rfl ?_
      refine o_iload_n dX10_processRequests_37 rfl ?_
      refine o_cV _ (ct_isTakenN hl (d + 1) g1 Mi hrl hwl x (by omega)) dX10_processRequests_38 ml_X10_48 yw_X7_isTaken rfl (by decide) (by omega) (by decide) rfl rfl rfl (Nat.le_of_ble_eq_true rfl) ?_
      refine o_ifb_eq (tgt := 50) dX10_processRequests_41 (by decide) (fun c_41 => ?_) (fun c_41 => ?_)
      · skip
        refine o_iinc dX10_processRequests_50 rfl (by decide) ?_
        refine o_goto (tgt := 2) dX10_processRequests_53 (by decide) ?_
        exact absurd hlsd c_41
      · skip
        refine o_aload_n dX10_processRequests_44 rfl ?_
        refine o_iload_n dX10_processRequests_45 rfl ?_
        refine o_iload_n dX10_processRequests_46 rfl ?_
        refine o_cVm _ (ct_X10_renewOrRefuse hl d g1 Mi h1 ki.1 x (by omega) hlsd (Mi 10 i) hq9.2) dX10_processRequests_47 ml_X10_112 yw_X10_renewOrRefuse rfl (by decide) (by omega) (by decide) rfl rfl rfl (Nat.le_of_ble_eq_true rfl) (fun g_47 q_47 => ?_)
        refine o_iinc dX10_processRequests_50 rfl (by decide) ?_
        refine o_goto (tgt := 2) dX10_processRequests_53 (by decide) ?_
        refine o_loc [(0, .ref 1), (1, .int (o_I (((i + 1) : Nat) : Int)))] rfl (ih (by omega) g_47 (by rw [e9, m_renew1', hx9]; exact q_47.1) (o_fr_t f1 q_47.2)))
  refine o_iconst dX10_processRequests_0 ?_
  refine o_istore_n dX10_processRequests_1 (by decide) ?_
  exact o_loc _ rfl (key 0 (Nat.zero_le _) g hst o_fr_r)
set_option maxRecDepth 100000 in
set_option maxHeartbeats 4000000 in
/-- fineDarkShips() -/
theorem ct_X10_fineDarkShips {l : Launch} (hl : l.stackTraces = false) (d : Nat) (g : Nat → Nat → Int) (M : Nat → Nat → Int) (hst : o_st g M) (hwk : o_wk M) : o_Ct l yX10_fineDarkShips wX10_fineDarkShips (d + 3) o_no [.ref 1] o_N (o_mem g) 0 0 (o_mt (none) (fun g' => o_st g' (m_fines M) ∧ o_fr (o_cs 1) g g')) := by
  refine o_Ct.ofV hl mX10_fineDarkShips (by decide +kernel) rfl rfl rfl (Nat.le_of_ble_eq_true rfl) ?_
  obtain ⟨hrs, hrl, hrq, hg3, hg4, hg5, hg6⟩ := id hst
  obtain ⟨hws, hwl, hwq, hwo, hwle, hwrq, hwrd⟩ := id hwk
  have hs0 := hrs.1
  have hl0 := hrl.1
  have hq0 := hrq.1
  have hs1 := o_rs2 hrs
  have hl1 := o_rl6 hrl
  have hq1 := o_rq12 hrq
  obtain ⟨hw1, hw2, hw3⟩ := id hws
  obtain ⟨hw4, hw5, hw6, hw7, hw8⟩ := id hwl
  obtain ⟨hw9, hw10, hw11⟩ := id hwq
  have key := o_lp (fun i => ∀ g1, o_st g1 (o_fd m_fine1 M i) → o_fr (o_cs 1) g g1 → o_V l mX10_fineDarkShips (d + 3) o_no (o_mt (none) (fun g' => o_st g' (m_fines M) ∧ o_fr (o_cs 1) g g')) 2 [(0, .ref 1), (1, .int (o_I ((i : Nat) : Int)))] [] o_N (o_mem g1) 0 0) (M 0 0).toNat (fun i hi ih g1 h1 f1 => by
    have e9 : o_fd m_fine1 M (i + 1) = m_fine1 (o_fd m_fine1 M i) i := rfl
    have ki := ke_fines hwk i hi
    obtain ⟨Mi, hMi⟩ : ∃ Mi, Mi = o_fd m_fine1 M i := ⟨_, rfl⟩
    rw [← hMi] at h1 ki e9
    obtain ⟨hrs, hrl, hrq, hg3, hg4, hg5, hg6⟩ := id h1
    obtain ⟨hws, hwl, hwq, hwo, hwle, hwrq, hwrd⟩ := id ki.1
    have hs0 := hrs.1
    have hl0 := hrl.1
    have hq0 := hrq.1
    have hs1 := o_rs2 hrs
    have hl1 := o_rl6 hrl
    have hq1 := o_rq12 hrq
    obtain ⟨hw1, hw2, hw3⟩ := id hws
    obtain ⟨hw4, hw5, hw6, hw7, hw8⟩ := id hwl
    obtain ⟨hw9, hw10, hw11⟩ := id hwq
    have hc9 := ki.2.1
    refine o_iload_n dX10_fineDarkShips_2 rfl ?_
    refine o_aload_n dX10_fineDarkShips_3 rfl ?_
    refine o_gf dX10_fineDarkShips_4 fl_X10_12 rfl (by decide) rfl ?_
    refine o_gf dX10_fineDarkShips_7 fl_X10_32 rfl (by decide) rfl ?_
    refine o_icmp_ge (tgt := 91) dX10_fineDarkShips_10 (by decide) ⟨by omega, by omega⟩ ⟨by omega, by omega⟩ (fun c_10 => ?_) (fun c_10 => ?_)
    · skip
      refine o_ret0 dX10_fineDarkShips_91 trivial ?_
      exact o_mt0 ⟨by have e : i = (M 0 0).toNat := by omega
                      rw [hMi, e] at h1; exact h1, f1⟩
    · skip
      have hi9 : (i : Int) < Mi 0 0 := by omega
      have hb8 := hw3 i hi9
      have hs8 := hs1 i hi9
      have hcn : 0 ≤ m_cnt Mi i ∧ m_cnt Mi i ≤ 8 := by have := o_sm_b (fun j => Mi 5 j = (i : Int) + 1) (Mi 0 1).toNat; unfold m_cnt; omega
      refine o_aload_n dX10_fineDarkShips_13 rfl ?_
      refine o_gf dX10_fineDarkShips_14 fl_X10_21 rfl (by decide) rfl ?_
      refine o_iload_n dX10_fineDarkShips_17 rfl ?_
      refine o_cV _ (ct_X7_countOf hl d g1 Mi hrl hwl (i : Int) ⟨by omega, by omega⟩) dX10_fineDarkShips_18 ml_X10_128 yw_X7_countOf rfl (by decide) (by omega) (by decide) rfl rfl rfl (Nat.le_of_ble_eq_true rfl) ?_
      rw [show o_sm (fun j => o_b (Mi 5 j = (i : Int) + 1)) (Mi 0 1).toNat = m_cnt Mi i from rfl]
      refine o_istore_n dX10_fineDarkShips_21 (by decide) ?_
      refine o_iload_n dX10_fineDarkShips_22 rfl ?_
      refine o_if_le (tgt := 85) dX10_fineDarkShips_23 (by decide) ⟨by omega, by omega⟩ (fun c_23 => ?_) (fun c_23 => ?_)
      · skip
        refine o_iinc dX10_fineDarkShips_85 rfl (by decide) ?_
        refine o_goto (tgt := 2) dX10_fineDarkShips_88 (by decide) ?_
        refine o_loc [(0, .ref 1), (1, .int (o_I (((i + 1) : Nat) : Int)))] rfl (ih (by omega) g1 (by rw [e9, m_fine1, if_neg (fun q => by have := q.1; omega)]; exact h1) f1)
      · skip
        refine o_aload_n dX10_fineDarkShips_26 rfl ?_
        refine o_gf dX10_fineDarkShips_27 fl_X10_21 rfl (by decide) rfl ?_
        refine o_iload_n dX10_fineDarkShips_30 rfl ?_
        refine o_cV _ (ct_X7_anyBrightOf hl d g1 Mi hrl hwl (i : Int) ⟨by omega, by omega⟩) dX10_fineDarkShips_31 ml_X10_131 yw_X7_anyBrightOf rfl (by decide) (by omega) (by decide) rfl rfl rfl (Nat.le_of_ble_eq_true rfl) ?_
        refine o_ifb_ne (tgt := 85) dX10_fineDarkShips_34 (by decide) (fun c_34 => ?_) (fun c_34 => ?_)
        · skip
          refine o_iinc dX10_fineDarkShips_85 rfl (by decide) ?_
          refine o_goto (tgt := 2) dX10_fineDarkShips_88 (by decide) ?_
          refine o_loc [(0, .ref 1), (1, .int (o_I (((i + 1) : Nat) : Int)))] rfl (ih (by omega) g1 (by rw [e9, m_fine1, if_neg (fun q => q.2 c_34)]; exact h1) f1)
        · skip
          refine o_iconst dX10_fineDarkShips_37 ?_
          refine o_iload_n dX10_fineDarkShips_38 rfl ?_
          refine o_imul dX10_fineDarkShips_39 ?_
          refine o_aload_n dX10_fineDarkShips_40 rfl ?_
          refine o_gf dX10_fineDarkShips_41 fl_X10_12 rfl (by decide) rfl ?_
          refine o_gf dX10_fineDarkShips_44 fl_X10_80 rfl (by decide) rfl ?_
          refine o_iload_n dX10_fineDarkShips_47 rfl ?_
          refine o_ialdn (j := i) dX10_fineDarkShips_48 (by decide) rfl (by decide) rfl (by omega) ?_
          refine o_mmin dX10_fineDarkShips_49 ml_X10_134 o_minS.1 o_minS.2.1 o_minS.2.2 ⟨by omega, by omega⟩ ⟨by omega, by omega⟩ (Nat.le_of_ble_eq_true rfl) ?_
          rw [show g1 3 i = Mi 1 i by omega]
          refine o_istore_n dX10_fineDarkShips_52 (by decide) ?_
          refine o_aload_n dX10_fineDarkShips_53 rfl ?_
          refine o_iload_n dX10_fineDarkShips_54 rfl ?_
          refine o_iload_n dX10_fineDarkShips_55 rfl ?_
          refine o_cVm _ (ct_X10_payOffice hl (d + 1) g1 Mi h1 ki.1 i hi9 (min (2 * m_cnt Mi i) (Mi 1 i))) dX10_fineDarkShips_56 ml_X10_67 yw_X10_payOffice rfl (by decide) (by omega) (by decide) rfl rfl rfl (Nat.le_of_ble_eq_true rfl) (fun g_56 q_56 => ?_)
          refine o_aload_n dX10_fineDarkShips_59 rfl ?_
          refine o_gf dX10_fineDarkShips_60 fl_X10_12 rfl (by decide) rfl ?_
          refine o_gf dX10_fineDarkShips_63 fl_X10_139 rfl (by decide) rfl ?_
          refine o_iload_n dX10_fineDarkShips_66 rfl ?_
          refine o_dup2 dX10_fineDarkShips_67 rfl rfl ?_
          refine o_ialdn (j := i) dX10_fineDarkShips_68 (by decide) rfl (by decide) rfl (by omega) ?_
          refine o_iload_n dX10_fineDarkShips_69 rfl ?_
          refine o_iadd dX10_fineDarkShips_70 ?_
          refine o_iaEn (j := i) dX10_fineDarkShips_71 rfl (by decide) (by decide) rfl (by omega) (fun _ => rfl) (by decide) (fun g_71 e_71 => ?_)
          have h_71 := o_st_2' q_56.1 e_71 (show g_56 4 i + min (2 * m_cnt Mi i) (Mi 1 i) = Mi 2 i + min (2 * m_cnt Mi i) (Mi 1 i) by have t3 := ((o_st_s q_56.1).2 i hi9).2.1; have t4 : g_56 4 i = Mi 2 i := t3; omega)
          refine o_aload_n dX10_fineDarkShips_72 rfl ?_
          refine o_gf dX10_fineDarkShips_73 fl_X10_12 rfl (by decide) rfl ?_
          refine o_gf dX10_fineDarkShips_76 fl_X10_142 rfl (by decide) rfl ?_
          refine o_iload_n dX10_fineDarkShips_79 rfl ?_
          refine o_dup2 dX10_fineDarkShips_80 rfl rfl ?_
          refine o_ialdn (j := i) dX10_fineDarkShips_81 (by decide) rfl (by decide) rfl (by omega) ?_
          refine o_iconst dX10_fineDarkShips_82 ?_
          refine o_iadd dX10_fineDarkShips_83 ?_
          refine o_iaEn (j := i) dX10_fineDarkShips_84 rfl (by decide) (by decide) rfl (by omega) (fun _ => rfl) (by decide) (fun g_84 e_84 => ?_)
          have h_84 := o_st_3' h_71 e_84 (show g_71 5 i + 1 = Mi 3 i + 1 by have t3 := ((o_st_s h_71).2 i hi9).2.2; have t4 : g_71 5 i = Mi 3 i := t3; omega)
          refine o_iinc dX10_fineDarkShips_85 rfl (by decide) ?_
          refine o_goto (tgt := 2) dX10_fineDarkShips_88 (by decide) ?_
          refine o_loc [(0, .ref 1), (1, .int (o_I (((i + 1) : Nat) : Int)))] rfl (ih (by omega) g_84 (by rw [e9, m_fine1, if_pos ⟨by omega, c_34⟩]; exact h_84) (o_fr_e' (o_fr_e' (o_fr_t f1 q_56.2) e_71 (o_cs1 (by decide) (by decide))) e_84 (o_cs1 (by decide) (by decide)))))
  refine o_iconst dX10_fineDarkShips_0 ?_
  refine o_istore_n dX10_fineDarkShips_1 (by decide) ?_
  exact o_loc _ rfl (key 0 (Nat.zero_le _) g hst o_fr_r)
set_option maxRecDepth 100000 in
set_option maxHeartbeats 4000000 in
/-- endLeases() -/
theorem ct_X10_endLeases {l : Launch} (hl : l.stackTraces = false) (d : Nat) (g : Nat → Nat → Int) (M : Nat → Nat → Int) (hst : o_st g M) (hwk : o_wk M) : o_Ct l yX10_endLeases wX10_endLeases (d + 3) o_no [.ref 1] o_N (o_mem g) 0 0 (o_mt (some (.int (o_I (n_end M (M 0 1).toNat)))) (fun g' => o_st g' (m_ends M) ∧ o_fr (o_cs 1) g g')) := by
  refine o_Ct.ofV hl mX10_endLeases (by decide +kernel) rfl rfl rfl (Nat.le_of_ble_eq_true rfl) ?_
  obtain ⟨hrs, hrl, hrq, hg3, hg4, hg5, hg6⟩ := id hst
  obtain ⟨hws, hwl, hwq, hwo, hwle, hwrq, hwrd⟩ := id hwk
  have hs0 := hrs.1
  have hl0 := hrl.1
  have hq0 := hrq.1
  have hs1 := o_rs2 hrs
  have hl1 := o_rl6 hrl
  have hq1 := o_rq12 hrq
  obtain ⟨hw1, hw2, hw3⟩ := id hws
  obtain ⟨hw4, hw5, hw6, hw7, hw8⟩ := id hwl
  obtain ⟨hw9, hw10, hw11⟩ := id hwq
  have key := o_lp (fun i => ∀ g1, o_st g1 (o_fd m_end1 M i) → o_fr (o_cs 1) g g1 → o_V l mX10_endLeases (d + 3) o_no (o_mt (some (.int (o_I (n_end M (M 0 1).toNat)))) (fun g' => o_st g' (m_ends M) ∧ o_fr (o_cs 1) g g')) 4 [(0, .ref 1), (1, .int (o_I (n_end M i))), (2, .int (o_I ((i : Nat) : Int)))] [] o_N (o_mem g1) 0 0) (M 0 1).toNat (fun i hi ih g1 h1 f1 => by
    have e9 : o_fd m_end1 M (i + 1) = m_end1 (o_fd m_end1 M i) i := rfl
    have ki := ke_ends hwk i hi
    obtain ⟨Mi, hMi⟩ : ∃ Mi, Mi = o_fd m_end1 M i := ⟨_, rfl⟩
    rw [← hMi] at h1 ki e9
    obtain ⟨hrs, hrl, hrq, hg3, hg4, hg5, hg6⟩ := id h1
    obtain ⟨hws, hwl, hwq, hwo, hwle, hwrq, hwrd⟩ := id ki.1
    have hs0 := hrs.1
    have hl0 := hrl.1
    have hq0 := hrq.1
    have hs1 := o_rs2 hrs
    have hl1 := o_rl6 hrl
    have hq1 := o_rq12 hrq
    obtain ⟨hw1, hw2, hw3⟩ := id hws
    obtain ⟨hw4, hw5, hw6, hw7, hw8⟩ := id hwl
    obtain ⟨hw9, hw10, hw11⟩ := id hwq
    have hc9 := ki.2.2.1
    have en : n_end M (i + 1) = n_end M i + o_b (0 < Mi 5 i ∧ Mi 6 i = Mi 0 3) := by rw [hMi]; rfl
    refine o_iload_n dX10_endLeases_4 rfl ?_
    refine o_aload_n dX10_endLeases_5 rfl ?_
    refine o_gf dX10_endLeases_6 fl_X10_21 rfl (by decide) rfl ?_
    refine o_gf dX10_endLeases_9 fl_X10_36 rfl (by decide) rfl ?_
    refine o_icmp_ge (tgt := 57) dX10_endLeases_12 (by decide) ⟨by omega, by omega⟩ ⟨by omega, by omega⟩ (fun c_12 => ?_) (fun c_12 => ?_)
    · skip
      refine o_iload_n dX10_endLeases_57 rfl ?_
      refine o_ret1 dX10_endLeases_58 trivial ?_
      have e : i = (M 0 1).toNat := by omega
      rw [hMi] at h1
      rw [e] at h1 ⊢
      exact o_mtI rfl ⟨h1, f1⟩
    · skip
      have hi9 : (i : Int) < Mi 0 1 := by omega
      have hb8 := hw8 i hi9
      have hl8 := hl1 i hi9
      refine o_aload_n dX10_endLeases_15 rfl ?_
      refine o_gf dX10_endLeases_16 fl_X10_21 rfl (by decide) rfl ?_
      refine o_iload_n dX10_endLeases_19 rfl ?_
      refine o_cV _ (ct_isTakenN hl (d + 1) g1 Mi hrl hwl i hi9) dX10_endLeases_20 ml_X10_48 yw_X7_isTaken rfl (by decide) (by omega) (by decide) rfl rfl rfl (Nat.le_of_ble_eq_true rfl) ?_
      refine o_ifb_eq (tgt := 51) dX10_endLeases_23 (by decide) (fun c_23 => ?_) (fun c_23 => ?_)
      · skip
        refine o_iinc dX10_endLeases_51 rfl (by decide) ?_
        refine o_goto (tgt := 4) dX10_endLeases_54 (by decide) ?_
        refine o_loc [(0, .ref 1), (1, .int (o_I (n_end M (i + 1)))), (2, .int (o_I (((i + 1) : Nat) : Int)))] (by rw [en, o_b0 (fun q => c_23 q.1), Int.add_zero]; rfl) (ih (by omega) g1 (by rw [e9, m_end1, if_neg (fun q => c_23 q.1)]; exact h1) f1)
      · skip
        refine o_aload_n dX10_endLeases_26 rfl ?_
        refine o_gf dX10_endLeases_27 fl_X10_21 rfl (by decide) rfl ?_
        refine o_gf dX10_endLeases_30 fl_X10_74 rfl (by decide) rfl ?_
        refine o_iload_n dX10_endLeases_33 rfl ?_
        refine o_ialdn (j := i) dX10_endLeases_34 (by decide) rfl (by decide) rfl (by omega) ?_
        refine o_aload_n dX10_endLeases_35 rfl ?_
        refine o_gf dX10_endLeases_36 fl_X10_77 rfl (by decide) rfl ?_
        refine o_icmp_ne (tgt := 51) dX10_endLeases_39 (by decide) ⟨by omega, by omega⟩ ⟨by omega, by omega⟩ (fun c_39 => ?_) (fun c_39 => ?_)
        · skip
          refine o_iinc dX10_endLeases_51 rfl (by decide) ?_
          refine o_goto (tgt := 4) dX10_endLeases_54 (by decide) ?_
          refine o_loc [(0, .ref 1), (1, .int (o_I (n_end M (i + 1)))), (2, .int (o_I (((i + 1) : Nat) : Int)))] (by rw [en, o_b0 (fun q => c_39 (by omega)), Int.add_zero]; rfl) (ih (by omega) g1 (by rw [e9, m_end1, if_neg (fun q => c_39 (by omega))]; exact h1) f1)
        · skip
          refine o_aload_n dX10_endLeases_42 rfl ?_
          refine o_iload_n dX10_endLeases_43 rfl ?_
          refine o_cVm _ (ct_X10_takeBack hl d g1 Mi h1 ki.1 i hi9) dX10_endLeases_44 ml_X10_145 yw_X10_takeBack rfl (by decide) (by omega) (by decide) rfl rfl rfl (Nat.le_of_ble_eq_true rfl) (fun g_44 q_44 => ?_)
          refine o_pop dX10_endLeases_47 rfl ?_
          refine o_iinc dX10_endLeases_48 rfl (by decide) ?_
          refine o_iinc dX10_endLeases_51 rfl (by decide) ?_
          refine o_goto (tgt := 4) dX10_endLeases_54 (by decide) ?_
          refine o_loc [(0, .ref 1), (1, .int (o_I (n_end M (i + 1)))), (2, .int (o_I (((i + 1) : Nat) : Int)))] (by rw [en, o_b1 ⟨c_23, by omega⟩]; rfl) (ih (by omega) g_44 (by rw [e9, m_end1, if_pos ⟨c_23, by omega⟩]; exact q_44.1) (o_fr_t f1 q_44.2)))
  refine o_iconst dX10_endLeases_0 ?_
  refine o_istore_n dX10_endLeases_1 (by decide) ?_
  refine o_iconst dX10_endLeases_2 ?_
  refine o_istore_n dX10_endLeases_3 (by decide) ?_
  exact o_loc _ rfl (key 0 (Nat.zero_le _) g hst o_fr_r)
set_option maxRecDepth 100000 in
set_option maxHeartbeats 4000000 in
/-- passOneHour() -/
theorem ct_X10_passOneHour {l : Launch} (hl : l.stackTraces = false) (d : Nat) (g : Nat → Nat → Int) (M : Nat → Nat → Int) (hst : o_st g M) (hwk : o_wk M) (hh : M 0 3 < 2000000) : o_Ct l yX10_passOneHour wX10_passOneHour (d + 4) o_no [.ref 1] o_N (o_mem g) 0 0 (o_mt (some (.int (o_I (n_hour M)))) (fun g' => o_st g' (m_hour M) ∧ o_fr (o_cs 1) g g')) := by
  refine o_Ct.ofV hl mX10_passOneHour (by decide +kernel) rfl rfl rfl (Nat.le_of_ble_eq_true rfl) ?_
  have k1 := (ke_m_renews hwk).1
  have k2 : o_ke (m_renews M) (m_burns (m_renews M)) := ke_burns k1.1 _ (Nat.le_refl _)
  have kp := ke_m_pre hwk hh
  refine o_aload_n dX10_passOneHour_0 rfl ?_
  refine o_cVm _ (ct_X10_processRequests hl d g M hst hwk) dX10_passOneHour_1 ml_X10_94 yw_X10_processRequests rfl (by decide) (by omega) (by decide) rfl rfl rfl (Nat.le_of_ble_eq_true rfl) (fun g_1 q_1 => ?_)
  refine o_aload_n dX10_passOneHour_4 rfl ?_
  refine o_cVm _ (ct_X10_burn hl (d + 1) g_1 (m_renews M) q_1.1 k1.1) dX10_passOneHour_5 ml_X10_97 yw_X10_burn rfl (by decide) (by omega) (by decide) rfl rfl rfl (Nat.le_of_ble_eq_true rfl) (fun g_5 q_5 => ?_)
  refine o_aload_n dX10_passOneHour_8 rfl ?_
  refine o_cVm _ (ct_X10_fineDarkShips hl d g_5 (m_burns (m_renews M)) q_5.1 k2.1) dX10_passOneHour_9 ml_X10_100 yw_X10_fineDarkShips rfl (by decide) (by omega) (by decide) rfl rfl rfl (Nat.le_of_ble_eq_true rfl) (fun g_9 q_9 => ?_)
  refine o_aload_n dX10_passOneHour_12 rfl ?_
  refine o_dup dX10_passOneHour_13 rfl ?_
  refine o_gf dX10_passOneHour_14 fl_X10_77 rfl (by decide) rfl ?_
  refine o_iconst dX10_passOneHour_17 ?_
  refine o_iadd dX10_passOneHour_18 ?_
  refine o_pmE dX10_passOneHour_19 fp_X10_77 rfl (by decide) (Nat.le_of_ble_eq_true rfl) rfl rfl (fun _ => rfl) (by decide) (fun g_19 e_19 => ?_)
  have h_19 := o_st_0_3' q_9.1 e_19 (show g_9 1 4 + 1 = (m_fines (m_burns (m_renews M))) 0 3 + 1 by have := o_st_hour q_9.1; omega)
  refine o_aload_n dX10_passOneHour_22 rfl ?_
  refine o_cVm _ (ct_X10_endLeases hl d g_19 (m_pre M) h_19 kp.1) dX10_passOneHour_23 ml_X10_103 yw_X10_endLeases rfl (by decide) (by omega) (by decide) rfl rfl rfl (Nat.le_of_ble_eq_true rfl) (fun g_23 q_23 => ?_)
  refine o_ret1 dX10_passOneHour_26 trivial ?_
  exact o_mtI rfl ⟨q_23.1, o_fr_t (o_fr_e' (o_fr_t (o_fr_t q_1.2 q_5.2) q_9.2) e_19 (o_cs1 (by decide) (by decide))) q_23.2⟩
set_option maxRecDepth 100000 in
set_option maxHeartbeats 4000000 in
/-- letPass(t) -/
theorem ct_X10_letPass {l : Launch} (hl : l.stackTraces = false) (d : Nat) (g : Nat → Nat → Int) (M : Nat → Nat → Int) (hst : o_st g M) (hwf : o_wf M) (t : Int) (ht : 0 ≤ t) (hh : M 0 3 + t ≤ 1000000) : o_Ct l yX10_letPass wX10_letPass (d + 5) o_no [.ref 1, .int (o_I t)] o_N (o_mem g) 0 0 (o_mt (some (.int (o_I (n_pass M t.toNat)))) (fun g' => o_st g' (m_pass M t.toNat) ∧ o_fr (o_cs 1) g g')) := by
  refine o_Ct.ofV hl mX10_letPass (by decide +kernel) rfl rfl rfl (Nat.le_of_ble_eq_true rfl) ?_
  have hh3 := hwf.1.2.1.2.2.1
  have key := o_lp (fun i => ∀ g1, o_st g1 (o_fd m_hour1 M i) → o_fr (o_cs 1) g g1 → o_V l mX10_letPass (d + 5) o_no (o_mt (some (.int (o_I (n_pass M t.toNat)))) (fun g' => o_st g' (m_pass M t.toNat) ∧ o_fr (o_cs 1) g g')) 4 [(0, .ref 1), (1, .int (o_I t)), (2, .int (o_I (n_pass M i))), (3, .int (o_I ((i : Nat) : Int)))] [] o_N (o_mem g1) 0 0) (t).toNat (fun i hi ih g1 h1 f1 => by
    have e9 : o_fd m_hour1 M (i + 1) = m_hour1 (o_fd m_hour1 M i) i := rfl
    have ki := (show o_wf (o_fd m_hour1 M i) ∧ (o_fd m_hour1 M i) 0 3 = M 0 3 + i from wf_pass hwf i (by omega))
    obtain ⟨Mi, hMi⟩ : ∃ Mi, Mi = o_fd m_hour1 M i := ⟨_, rfl⟩
    rw [← hMi] at h1 ki e9
    have en : n_pass M (i + 1) = n_pass M i + n_hour Mi := by rw [hMi]; rfl
    have hh5 := ki.2
    refine o_iload_n dX10_letPass_4 rfl ?_
    refine o_iload_n dX10_letPass_5 rfl ?_
    refine o_icmp_ge (tgt := 22) dX10_letPass_6 (by decide) ⟨by omega, by omega⟩ ⟨by omega, by omega⟩ (fun c_6 => ?_) (fun c_6 => ?_)
    · skip
      refine o_iload_n dX10_letPass_22 rfl ?_
      refine o_ret1 dX10_letPass_23 trivial ?_
      have e : i = t.toNat := by omega
      rw [hMi] at h1
      rw [e] at h1 ⊢
      exact o_mtI rfl ⟨h1, f1⟩
    · skip
      refine o_iload_n dX10_letPass_9 rfl ?_
      refine o_aload_n dX10_letPass_10 rfl ?_
      refine o_cVm _ (ct_X10_passOneHour hl d g1 Mi h1 ki.1.1 (by omega)) dX10_letPass_11 ml_X10_90 yw_X10_passOneHour rfl (by decide) (by omega) (by decide) rfl rfl rfl (Nat.le_of_ble_eq_true rfl) (fun g_11 q_11 => ?_)
      refine o_iadd dX10_letPass_14 ?_
      refine o_istore_n dX10_letPass_15 (by decide) ?_
      refine o_iinc dX10_letPass_16 rfl (by decide) ?_
      refine o_goto (tgt := 4) dX10_letPass_19 (by decide) ?_
      refine o_loc [(0, .ref 1), (1, .int (o_I t)), (2, .int (o_I (n_pass M (i + 1)))), (3, .int (o_I (((i + 1) : Nat) : Int)))] (by rw [en]; rfl) (ih (by omega) g_11 (by rw [e9]; exact q_11.1) (o_fr_t f1 q_11.2)))
  refine o_iconst dX10_letPass_0 ?_
  refine o_istore_n dX10_letPass_1 (by decide) ?_
  refine o_iconst dX10_letPass_2 ?_
  refine o_istore_n dX10_letPass_3 (by decide) ?_
  exact o_loc _ rfl (key 0 (Nat.zero_le _) g hst o_fr_r)
